section ZM8
theorem dJ7_fill_53178_0 : decode cJ7_fill_53178 0 = .ok (.iconst 0, 1) := by decide +kernel
theorem dJ7_fill_53178_1 : decode cJ7_fill_53178 1 = .ok (.istore_n 2, 1) := by decide +kernel
theorem dJ7_fill_53178_2 : decode cJ7_fill_53178 2 = .ok (.aload_n 0, 1) := by decide +kernel
theorem dJ7_fill_53178_3 : decode cJ7_fill_53178 3 = .ok (.arraylength, 1) := by decide +kernel
theorem dJ7_fill_53178_4 : decode cJ7_fill_53178 4 = .ok (.istore_n 3, 1) := by decide +kernel
theorem dJ7_fill_53178_5 : decode cJ7_fill_53178 5 = .ok (.iload_n 2, 1) := by decide +kernel
theorem dJ7_fill_53178_6 : decode cJ7_fill_53178 6 = .ok (.iload_n 3, 1) := by decide +kernel
theorem dJ7_fill_53178_7 : decode cJ7_fill_53178 7 = .ok (.if_icmp .ge 13, 3) := by decide +kernel
theorem dJ7_fill_53178_10 : decode cJ7_fill_53178 10 = .ok (.aload_n 0, 1) := by decide +kernel
theorem dJ7_fill_53178_11 : decode cJ7_fill_53178 11 = .ok (.iload_n 2, 1) := by decide +kernel
theorem dJ7_fill_53178_12 : decode cJ7_fill_53178 12 = .ok (.iload_n 1, 1) := by decide +kernel
theorem dJ7_fill_53178_13 : decode cJ7_fill_53178 13 = .ok (.iastore, 1) := by decide +kernel
theorem dJ7_fill_53178_14 : decode cJ7_fill_53178 14 = .ok (.iinc 2 1, 3) := by decide +kernel
theorem dJ7_fill_53178_17 : decode cJ7_fill_53178 17 = .ok (.goto (-12), 3) := by decide +kernel
theorem dJ7_fill_53178_20 : decode cJ7_fill_53178 20 = .ok (.return_, 1) := by decide +kernel
set_option maxRecDepth 20000 in
theorem ggX0_init_J7_fill_53178 : GoodIn wsX0_init wsJ7_fill_53178 := goodIn_r _ [20] (by decide +kernel) (by decide +kernel)
set_option maxRecDepth 20000 in
theorem gX0_init_J7_fill_53178 : GoodIn wsX0_init (va_wsS RX0 49 yJ7_fill_53178 wsJ7_fill_53178) := goodIn_app (goodIn_of _ (by decide +kernel)) ggX0_init_J7_fill_53178
theorem yh_fill : yJ7_fill_53178.cls ≠ "java/lang/invoke/MethodHandle" ∧ yJ7_fill_53178.cls ≠ "java/lang/invoke/VarHandle" ∧ (parseMethodDescriptor yJ7_fill_53178.desc).map (fun d => d.parameters.length) = some 2 := by decide +kernel
def y_fl (f : Nat → Int32) (v : Int32) (i : Nat) : Nat → Int32 := fun j => if j < i then v else f j
theorem y_fl_s (f : Nat → Int32) (v : Int32) (i : Nat) : upd (y_fl f v i) i v = y_fl f v (i + 1) := by
  funext j
  unfold upd y_fl
  by_cases h : j = i
  · subst h; simp
  · by_cases h2 : j < i
    · rw [if_neg h, if_pos h2, if_pos (by omega)]
    · rw [if_neg h, if_neg h2, if_neg (by omega)]
set_option maxRecDepth 100000 in
set_option maxHeartbeats 4000000 in
/-- Arrays.fill of a row of ints -/
theorem y_J7_fill (l : Launch) (G : va_G) (cI cZ cT : ClassId) (n : Nat) (f : Nat → Int32) (v : Int32) (hn : n < 2 ^ 31) : zF l G cI cZ cT yJ7_fill_53178 wsJ7_fill_53178 { frames := 0, cells := 0, slots := 0, locals := 0 } n f v := by
  refine y_ofF (cc := cJ7_fill_53178) (maxL := 4) (by decide) rfl (by decide) ?_
  intro p9 e9 s9 m9 a9 b9 h9 c9 h0 X
  refine y_iconst (v := 0) X (by decide) dJ7_fill_53178_0 ?_
  refine y_istore_n (lo' := [(2, .int 0), (0, .ref h0), (1, .int v)]) X dJ7_fill_53178_1 rfl (by decide) rfl ?_
  refine y_aload_n X 1 dJ7_fill_53178_2 rfl rfl ?_
  refine y_alen (v := nI n) X rfl dJ7_fill_53178_3 ?_
  refine y_istore_n (lo' := [(3, .int (nI n)), (2, .int 0), (0, .ref h0), (1, .int v)]) X dJ7_fill_53178_4 rfl (by decide) rfl ?_
  have L : ∀ (d i : Nat), i + d = n → y_V p9 l e9 (headSpec wsJ7_fill_53178 { frames := 0, cells := 0, slots := 0, locals := 0 }).room s9 m9 a9 b9 h9 c9 (MQ b9 (va_Qv (fun _ : Unit => True) (fun _ t => va_P G vwCl (y_w h0 s9.heap.size (.inl (cI, n, .inl (fun _ => v))) 0 (fun _ => .inr (0, []))) t.heap) (y_A h0 s9.heap.size)) a9 s9 0 0 (y_A h0 s9.heap.size)) G cI cZ cT 4 h0 (.inl (cI, n, .inl (y_fl f v i))) 0 0 (fun _ => .inr (0, [])) 5 [(3, .int (nI n)), (2, .int (nI i)), (0, .ref h0), (1, .int v)] [] := by
    intro d
    induction d with
    | zero =>
      intro i hi
      have he : i = n := by omega
      rw [he]
      refine y_iload_n X 1 dJ7_fill_53178_5 rfl rfl ?_
      refine y_iload_n X 0 dJ7_fill_53178_6 rfl rfl ?_
      refine y_ncmp_ge X n n rfl rfl hn hn (tgt := 20) dJ7_fill_53178_7 (by decide) (fun _ => ?_) (fun c_7 => absurd c_7 (by omega))
      refine y_congI (f' := fun _ => v) (fun i hi => by simp [y_fl, hi]) ?_
      exact fun H locs ls hP hD hS h => W.vret X.1.1 X.1.2.1 X.2.2.2.1 (fun t ht hW => ⟨⟨(), rfl, trivial, by show va_P _ _ _ t.heap; rw [ht]; exact hP⟩, hS.F ht⟩) hS.2.2 dJ7_fill_53178_20 X.2.2.2.2
    | succ d ih =>
      intro i hi
      refine y_iload_n X 1 dJ7_fill_53178_5 rfl rfl ?_
      refine y_iload_n X 0 dJ7_fill_53178_6 rfl rfl ?_
      refine y_ncmp_ge X i n rfl rfl (by omega) hn (tgt := 20) dJ7_fill_53178_7 (by decide) (fun c_7 => absurd c_7 (by omega)) (fun _ => ?_)
      refine y_aload_n X 2 dJ7_fill_53178_10 rfl rfl ?_
      refine y_iload_n X 1 dJ7_fill_53178_11 rfl rfl ?_
      refine y_iload_n X 3 dJ7_fill_53178_12 rfl rfl ?_
      refine y_iast X (a := i) rfl (by omega) hn dJ7_fill_53178_13 ?_
      refine y_e (e1 := .inl (cI, n, .inl (y_fl f v (i + 1)))) (by rw [y_fl_s]) ?_
      refine y_iinc (v := nI (i + 1)) (lo' := [(2, .int (nI (i + 1))), (3, .int (nI n)), (0, .ref h0), (1, .int v)]) X 1 dJ7_fill_53178_14 rfl (nI_1 i) (by decide) rfl ?_
      refine y_goto (tgt := 5) X dJ7_fill_53178_17 (by decide) ?_
      refine y_lo [1, 0, 2, 3] (lo' := [(3, .int (nI n)), (2, .int (nI (i + 1))), (0, .ref h0), (1, .int v)]) rfl ?_
      exact ih (i + 1) (by omega)
  refine y_e (e1 := .inl (cI, n, .inl (y_fl f v 0))) (by congr 1) ?_
  exact L n 0 (by omega)
theorem yw_X2_init_ob1 : Cond.methodLink RX2 3 Lib.objectInit ∈ wsX2_init := by decide +kernel
theorem yw_X2_init_ob2 : Cond.instanceMethod Lib.objectInit ∈ wsX2_init := by decide +kernel
theorem yw_X2_init_ob3 : Cond.code Lib.objectInit ⟨#[0xb1]⟩ 1 none ∈ wsX2_init := by decide +kernel
theorem yw_X2_init_arI : Cond.arrayClass .int ∈ wsX2_init := by decide +kernel
theorem yi_X2_init_X2 : ∀ w ∈ wsX20, w ∈ wsX2_init := by decide +kernel
theorem yl_X2_init_9 : Cond.fieldLink RX2 9 RX2 (TX2 0).2.1 (TX2 0).2.2.1 ∈ wsX2_init := by decide +kernel
theorem yl_X2_init_15 : Cond.fieldLink RX2 15 RX2 (TX2 1).2.1 (TX2 1).2.2.1 ∈ wsX2_init := by decide +kernel
set_option maxRecDepth 100000 in
set_option maxHeartbeats 4000000 in
/-- X2_init -/
theorem y_X2_init (l : Launch) (G : va_G) (cI cZ cT : ClassId) : zN l G cI cZ cT yX2_init wsX2_init { frames := 1, cells := 1, slots := 200, locals := 20 } (.inr (2, [.null, .int 0])) (fun _ sz => .inr (2, [.ref (sz + 0), .int 0])) 1 200 (fun _ _ _ => .inl (cI, 200, .inl (fun _ => 0))) := by
  refine y_of (cc := cX2_init) (maxL := 1) (by decide) rfl rfl (by decide) ?_
  intro p9 e9 s9 m9 a9 b9 h9 c9 h0 X hin hh
  refine y_aload_n X 0 dX2_init_0 rfl rfl ?_
  refine y_obj X yw_X2_init_ob1 yw_X2_init_ob2 yw_X2_init_ob3 (Nat.le_of_ble_eq_true rfl) (Nat.le_of_ble_eq_true rfl) dX2_init_1 ?_
  refine y_aload_n X 0 dX2_init_4 rfl rfl ?_
  refine y_sipush (v := 200) X (by decide) dX2_init_5 ?_
  refine y_newI X 200 yw_X2_init_arI (by decide) rfl (Nat.le_of_ble_eq_true rfl) (Nat.le_of_ble_eq_true rfl) (Nat.le_of_ble_eq_true rfl) dX2_init_8 ?_
  refine y_putF X hin (C := RX2) (T := TX2) (N := 2) rfl 0 (by decide) yi_X2_init_X2 yl_X2_init_9 rfl tyX2_ok nmX2 rfl rfl (ty := .array .int) (by decide +kernel) rfl rfl (Nat.le_of_ble_eq_true rfl) dX2_init_10 ?_
  refine y_e (e1 := .inr (2, [.ref (s9.heap.size + 0), .int 0])) rfl ?_
  refine y_aload_n X 0 dX2_init_13 rfl rfl ?_
  refine y_iconst (v := 0) X (by decide) dX2_init_14 ?_
  refine y_put X (C := RX2) (T := TX2) (N := 2) rfl 1 (by decide) yi_X2_init_X2 yl_X2_init_15 rfl tyX2_ok nmX2 rfl (ty := .int) (by decide +kernel) rfl rfl (Nat.le_of_ble_eq_true rfl) dX2_init_15 ?_
  refine y_e (e1 := .inr (2, [.ref (s9.heap.size + 0), .int 0])) rfl ?_
  exact y_end (e1 := (fun _ sz => .inr (2, [.ref (sz + 0), .int 0]))) (ct1 := (fun _ _ _ => .inl (cI, 200, .inl (fun _ => 0)))) (k := 1) (q := 200) X rfl (fun i hi => by rcases (show i = 0 from by have hi9 : i < 1 := hi; omega) with rfl <;> rfl) dX2_init_18
theorem yw_X4_init_ob1 : Cond.methodLink RX4 3 Lib.objectInit ∈ wsX4_init := by decide +kernel
theorem yw_X4_init_ob2 : Cond.instanceMethod Lib.objectInit ∈ wsX4_init := by decide +kernel
theorem yw_X4_init_ob3 : Cond.code Lib.objectInit ⟨#[0xb1]⟩ 1 none ∈ wsX4_init := by decide +kernel
theorem yw_X4_init_arI : Cond.arrayClass .int ∈ wsX4_init := by decide +kernel
theorem yi_X4_init_X4 : ∀ w ∈ wsX40, w ∈ wsX4_init := by decide +kernel
theorem yl_X4_init_9 : Cond.fieldLink RX4 9 RX4 (TX4 0).2.1 (TX4 0).2.2.1 ∈ wsX4_init := by decide +kernel
theorem yw_X4_init_arZ : Cond.arrayClass .boolean ∈ wsX4_init := by decide +kernel
theorem yl_X4_init_15 : Cond.fieldLink RX4 15 RX4 (TX4 1).2.1 (TX4 1).2.2.1 ∈ wsX4_init := by decide +kernel
set_option maxRecDepth 100000 in
set_option maxHeartbeats 4000000 in
/-- X4_init -/
theorem y_X4_init (l : Launch) (G : va_G) (cI cZ cT : ClassId) : zN l G cI cZ cT yX4_init wsX4_init { frames := 1, cells := 2, slots := 288, locals := 20 } (.inr (4, [.null, .null])) (fun _ sz => .inr (4, [.ref (sz + 0), .ref (sz + 1)])) 2 288 (fun _ _ i => if i = 0 then .inl (cI, 144, .inl (fun _ => 0)) else .inl (cZ, 144, .inl (fun _ => 0))) := by
  refine y_of (cc := cX4_init) (maxL := 1) (by decide) rfl rfl (by decide) ?_
  intro p9 e9 s9 m9 a9 b9 h9 c9 h0 X hin hh
  refine y_aload_n X 0 dX4_init_0 rfl rfl ?_
  refine y_obj X yw_X4_init_ob1 yw_X4_init_ob2 yw_X4_init_ob3 (Nat.le_of_ble_eq_true rfl) (Nat.le_of_ble_eq_true rfl) dX4_init_1 ?_
  refine y_aload_n X 0 dX4_init_4 rfl rfl ?_
  refine y_sipush (v := 144) X (by decide) dX4_init_5 ?_
  refine y_newI X 144 yw_X4_init_arI (by decide) rfl (Nat.le_of_ble_eq_true rfl) (Nat.le_of_ble_eq_true rfl) (Nat.le_of_ble_eq_true rfl) dX4_init_8 ?_
  refine y_putF X hin (C := RX4) (T := TX4) (N := 2) rfl 0 (by decide) yi_X4_init_X4 yl_X4_init_9 rfl tyX4_ok nmX4 rfl rfl (ty := .array .int) (by decide +kernel) rfl rfl (Nat.le_of_ble_eq_true rfl) dX4_init_10 ?_
  refine y_e (e1 := .inr (4, [.ref (s9.heap.size + 0), .null])) rfl ?_
  refine y_aload_n X 0 dX4_init_13 rfl rfl ?_
  refine y_sipush (v := 144) X (by decide) dX4_init_14 ?_
  refine y_newZ X 144 yw_X4_init_arZ (by decide) rfl (Nat.le_of_ble_eq_true rfl) (Nat.le_of_ble_eq_true rfl) (Nat.le_of_ble_eq_true rfl) dX4_init_17 ?_
  refine y_putF X hin (C := RX4) (T := TX4) (N := 2) rfl 1 (by decide) yi_X4_init_X4 yl_X4_init_15 rfl tyX4_ok nmX4 rfl rfl (ty := .array .boolean) (by decide +kernel) rfl rfl (Nat.le_of_ble_eq_true rfl) dX4_init_19 ?_
  refine y_e (e1 := .inr (4, [.ref (s9.heap.size + 0), .ref (s9.heap.size + 1)])) rfl ?_
  exact y_end (e1 := (fun _ sz => .inr (4, [.ref (sz + 0), .ref (sz + 1)]))) (ct1 := (fun _ _ i => if i = 0 then .inl (cI, 144, .inl (fun _ => 0)) else .inl (cZ, 144, .inl (fun _ => 0)))) (k := 2) (q := 288) X rfl (fun i hi => by rcases (show i = 0 ∨ i = 1 from by have hi9 : i < 2 := hi; omega) with rfl | rfl <;> rfl) dX4_init_22
theorem yw_X3_init_ob1 : Cond.methodLink RX3 3 Lib.objectInit ∈ wsX3_init := by decide +kernel
theorem yw_X3_init_ob2 : Cond.instanceMethod Lib.objectInit ∈ wsX3_init := by decide +kernel
theorem yw_X3_init_ob3 : Cond.code Lib.objectInit ⟨#[0xb1]⟩ 1 none ∈ wsX3_init := by decide +kernel
theorem yi_X3_init_X3 : ∀ w ∈ wsX30, w ∈ wsX3_init := by decide +kernel
theorem yl_X3_init_9 : Cond.fieldLink RX3 9 RX3 (TX3 0).2.1 (TX3 0).2.2.1 ∈ wsX3_init := by decide +kernel
theorem yl_X3_init_15 : Cond.fieldLink RX3 15 RX3 (TX3 1).2.1 (TX3 1).2.2.1 ∈ wsX3_init := by decide +kernel
theorem yl_X3_init_18 : Cond.fieldLink RX3 18 RX3 (TX3 2).2.1 (TX3 2).2.2.1 ∈ wsX3_init := by decide +kernel
theorem yl_X3_init_21 : Cond.fieldLink RX3 21 RX3 (TX3 3).2.1 (TX3 3).2.2.1 ∈ wsX3_init := by decide +kernel
theorem yl_X3_init_24 : Cond.fieldLink RX3 24 RX3 (TX3 4).2.1 (TX3 4).2.2.1 ∈ wsX3_init := by decide +kernel
theorem yl_X3_init_27 : Cond.fieldLink RX3 27 RX3 (TX3 5).2.1 (TX3 5).2.2.1 ∈ wsX3_init := by decide +kernel
theorem yl_X3_init_30 : Cond.fieldLink RX3 30 RX3 (TX3 6).2.1 (TX3 6).2.2.1 ∈ wsX3_init := by decide +kernel
theorem yl_X3_init_33 : Cond.fieldLink RX3 33 RX3 (TX3 7).2.1 (TX3 7).2.2.1 ∈ wsX3_init := by decide +kernel
theorem yl_X3_init_37 : Cond.fieldLink RX3 37 RX3 (TX3 8).2.1 (TX3 8).2.2.1 ∈ wsX3_init := by decide +kernel
theorem yl_X3_init_40 : Cond.fieldLink RX3 40 RX3 (TX3 9).2.1 (TX3 9).2.2.1 ∈ wsX3_init := by decide +kernel
theorem yl_X3_init_43 : Cond.fieldLink RX3 43 RX3 (TX3 10).2.1 (TX3 10).2.2.1 ∈ wsX3_init := by decide +kernel
theorem yl_X3_init_46 : Cond.fieldLink RX3 46 RX3 (TX3 11).2.1 (TX3 11).2.2.1 ∈ wsX3_init := by decide +kernel
theorem yl_X3_init_49 : Cond.fieldLink RX3 49 RX3 (TX3 12).2.1 (TX3 12).2.2.1 ∈ wsX3_init := by decide +kernel
theorem yw_X3_init_arI : Cond.arrayClass .int ∈ wsX3_init := by decide +kernel
theorem yl_X3_init_52 : Cond.fieldLink RX3 52 RX3 (TX3 13).2.1 (TX3 13).2.2.1 ∈ wsX3_init := by decide +kernel
theorem yl_X3_init_56 : Cond.fieldLink RX3 56 RX3 (TX3 14).2.1 (TX3 14).2.2.1 ∈ wsX3_init := by decide +kernel
theorem yl_X3_init_59 : Cond.fieldLink RX3 59 RX3 (TX3 15).2.1 (TX3 15).2.2.1 ∈ wsX3_init := by decide +kernel
set_option maxRecDepth 100000 in
set_option maxHeartbeats 4000000 in
/-- X3_init -/
theorem y_X3_init (l : Launch) (G : va_G) (cI cZ cT : ClassId) : zN l G cI cZ cT yX3_init wsX3_init { frames := 1, cells := 3, slots := 36, locals := 20 } (.inr (3, [.int 0, .int 0, .int 0, .int 0, .int 0, .int 0, .int 0, .int 0, .int 0, .int 0, .int 0, .int 0, .int 0, .null, .null, .null])) (fun _ sz => .inr (3, [.int 0, .int 0, .int 0, .int 1, .int 0, .int 0, .int 0, .int 0, .int 0, .int (-1), .int (-1), .int (-1), .int 0, .ref (sz + 0), .ref (sz + 1), .ref (sz + 2)])) 3 36 (fun _ _ _ => .inl (cI, 12, .inl (fun _ => 0))) := by
  refine y_of (cc := cX3_init) (maxL := 1) (by decide) rfl rfl (by decide) ?_
  intro p9 e9 s9 m9 a9 b9 h9 c9 h0 X hin hh
  refine y_aload_n X 0 dX3_init_0 rfl rfl ?_
  refine y_obj X yw_X3_init_ob1 yw_X3_init_ob2 yw_X3_init_ob3 (Nat.le_of_ble_eq_true rfl) (Nat.le_of_ble_eq_true rfl) dX3_init_1 ?_
  refine y_aload_n X 0 dX3_init_4 rfl rfl ?_
  refine y_iconst (v := 0) X (by decide) dX3_init_5 ?_
  refine y_put X (C := RX3) (T := TX3) (N := 16) rfl 0 (by decide) yi_X3_init_X3 yl_X3_init_9 rfl tyX3_ok nmX3 rfl (ty := .int) (by decide +kernel) rfl rfl (Nat.le_of_ble_eq_true rfl) dX3_init_6 ?_
  refine y_e (e1 := .inr (3, [.int 0, .int 0, .int 0, .int 0, .int 0, .int 0, .int 0, .int 0, .int 0, .int 0, .int 0, .int 0, .int 0, .null, .null, .null])) rfl ?_
  refine y_aload_n X 0 dX3_init_9 rfl rfl ?_
  refine y_iconst (v := 0) X (by decide) dX3_init_10 ?_
  refine y_put X (C := RX3) (T := TX3) (N := 16) rfl 1 (by decide) yi_X3_init_X3 yl_X3_init_15 rfl tyX3_ok nmX3 rfl (ty := .int) (by decide +kernel) rfl rfl (Nat.le_of_ble_eq_true rfl) dX3_init_11 ?_
  refine y_e (e1 := .inr (3, [.int 0, .int 0, .int 0, .int 0, .int 0, .int 0, .int 0, .int 0, .int 0, .int 0, .int 0, .int 0, .int 0, .null, .null, .null])) rfl ?_
  refine y_aload_n X 0 dX3_init_14 rfl rfl ?_
  refine y_iconst (v := 0) X (by decide) dX3_init_15 ?_
  refine y_put X (C := RX3) (T := TX3) (N := 16) rfl 2 (by decide) yi_X3_init_X3 yl_X3_init_18 rfl tyX3_ok nmX3 rfl (ty := .int) (by decide +kernel) rfl rfl (Nat.le_of_ble_eq_true rfl) dX3_init_16 ?_
  refine y_e (e1 := .inr (3, [.int 0, .int 0, .int 0, .int 0, .int 0, .int 0, .int 0, .int 0, .int 0, .int 0, .int 0, .int 0, .int 0, .null, .null, .null])) rfl ?_
  refine y_aload_n X 0 dX3_init_19 rfl rfl ?_
  refine y_iconst (v := 1) X (by decide) dX3_init_20 ?_
  refine y_put X (C := RX3) (T := TX3) (N := 16) rfl 3 (by decide) yi_X3_init_X3 yl_X3_init_21 rfl tyX3_ok nmX3 rfl (ty := .int) (by decide +kernel) rfl rfl (Nat.le_of_ble_eq_true rfl) dX3_init_21 ?_
  refine y_e (e1 := .inr (3, [.int 0, .int 0, .int 0, .int 1, .int 0, .int 0, .int 0, .int 0, .int 0, .int 0, .int 0, .int 0, .int 0, .null, .null, .null])) rfl ?_
  refine y_aload_n X 0 dX3_init_24 rfl rfl ?_
  refine y_iconst (v := 0) X (by decide) dX3_init_25 ?_
  refine y_put X (C := RX3) (T := TX3) (N := 16) rfl 4 (by decide) yi_X3_init_X3 yl_X3_init_24 rfl tyX3_ok nmX3 rfl (ty := .int) (by decide +kernel) rfl rfl (Nat.le_of_ble_eq_true rfl) dX3_init_26 ?_
  refine y_e (e1 := .inr (3, [.int 0, .int 0, .int 0, .int 1, .int 0, .int 0, .int 0, .int 0, .int 0, .int 0, .int 0, .int 0, .int 0, .null, .null, .null])) rfl ?_
  refine y_aload_n X 0 dX3_init_29 rfl rfl ?_
  refine y_iconst (v := 0) X (by decide) dX3_init_30 ?_
  refine y_put X (C := RX3) (T := TX3) (N := 16) rfl 5 (by decide) yi_X3_init_X3 yl_X3_init_27 rfl tyX3_ok nmX3 rfl (ty := .int) (by decide +kernel) rfl rfl (Nat.le_of_ble_eq_true rfl) dX3_init_31 ?_
  refine y_e (e1 := .inr (3, [.int 0, .int 0, .int 0, .int 1, .int 0, .int 0, .int 0, .int 0, .int 0, .int 0, .int 0, .int 0, .int 0, .null, .null, .null])) rfl ?_
  refine y_aload_n X 0 dX3_init_34 rfl rfl ?_
  refine y_iconst (v := 0) X (by decide) dX3_init_35 ?_
  refine y_put X (C := RX3) (T := TX3) (N := 16) rfl 6 (by decide) yi_X3_init_X3 yl_X3_init_30 rfl tyX3_ok nmX3 rfl (ty := .int) (by decide +kernel) rfl rfl (Nat.le_of_ble_eq_true rfl) dX3_init_36 ?_
  refine y_e (e1 := .inr (3, [.int 0, .int 0, .int 0, .int 1, .int 0, .int 0, .int 0, .int 0, .int 0, .int 0, .int 0, .int 0, .int 0, .null, .null, .null])) rfl ?_
  refine y_aload_n X 0 dX3_init_39 rfl rfl ?_
  refine y_iconst (v := 0) X (by decide) dX3_init_40 ?_
  refine y_put X (C := RX3) (T := TX3) (N := 16) rfl 7 (by decide) yi_X3_init_X3 yl_X3_init_33 rfl tyX3_ok nmX3 rfl (ty := .boolean) (by decide +kernel) rfl rfl (Nat.le_of_ble_eq_true rfl) dX3_init_41 ?_
  refine y_e (e1 := .inr (3, [.int 0, .int 0, .int 0, .int 1, .int 0, .int 0, .int 0, .int 0, .int 0, .int 0, .int 0, .int 0, .int 0, .null, .null, .null])) rfl ?_
  refine y_aload_n X 0 dX3_init_44 rfl rfl ?_
  refine y_iconst (v := 0) X (by decide) dX3_init_45 ?_
  refine y_put X (C := RX3) (T := TX3) (N := 16) rfl 8 (by decide) yi_X3_init_X3 yl_X3_init_37 rfl tyX3_ok nmX3 rfl (ty := .boolean) (by decide +kernel) rfl rfl (Nat.le_of_ble_eq_true rfl) dX3_init_46 ?_
  refine y_e (e1 := .inr (3, [.int 0, .int 0, .int 0, .int 1, .int 0, .int 0, .int 0, .int 0, .int 0, .int 0, .int 0, .int 0, .int 0, .null, .null, .null])) rfl ?_
  refine y_aload_n X 0 dX3_init_49 rfl rfl ?_
  refine y_iconst (v := -1) X (by decide) dX3_init_50 ?_
  refine y_put X (C := RX3) (T := TX3) (N := 16) rfl 9 (by decide) yi_X3_init_X3 yl_X3_init_40 rfl tyX3_ok nmX3 rfl (ty := .int) (by decide +kernel) rfl rfl (Nat.le_of_ble_eq_true rfl) dX3_init_51 ?_
  refine y_e (e1 := .inr (3, [.int 0, .int 0, .int 0, .int 1, .int 0, .int 0, .int 0, .int 0, .int 0, .int (-1), .int 0, .int 0, .int 0, .null, .null, .null])) rfl ?_
  refine y_aload_n X 0 dX3_init_54 rfl rfl ?_
  refine y_iconst (v := -1) X (by decide) dX3_init_55 ?_
  refine y_put X (C := RX3) (T := TX3) (N := 16) rfl 10 (by decide) yi_X3_init_X3 yl_X3_init_43 rfl tyX3_ok nmX3 rfl (ty := .int) (by decide +kernel) rfl rfl (Nat.le_of_ble_eq_true rfl) dX3_init_56 ?_
  refine y_e (e1 := .inr (3, [.int 0, .int 0, .int 0, .int 1, .int 0, .int 0, .int 0, .int 0, .int 0, .int (-1), .int (-1), .int 0, .int 0, .null, .null, .null])) rfl ?_
  refine y_aload_n X 0 dX3_init_59 rfl rfl ?_
  refine y_iconst (v := -1) X (by decide) dX3_init_60 ?_
  refine y_put X (C := RX3) (T := TX3) (N := 16) rfl 11 (by decide) yi_X3_init_X3 yl_X3_init_46 rfl tyX3_ok nmX3 rfl (ty := .int) (by decide +kernel) rfl rfl (Nat.le_of_ble_eq_true rfl) dX3_init_61 ?_
  refine y_e (e1 := .inr (3, [.int 0, .int 0, .int 0, .int 1, .int 0, .int 0, .int 0, .int 0, .int 0, .int (-1), .int (-1), .int (-1), .int 0, .null, .null, .null])) rfl ?_
  refine y_aload_n X 0 dX3_init_64 rfl rfl ?_
  refine y_iconst (v := 0) X (by decide) dX3_init_65 ?_
  refine y_put X (C := RX3) (T := TX3) (N := 16) rfl 12 (by decide) yi_X3_init_X3 yl_X3_init_49 rfl tyX3_ok nmX3 rfl (ty := .int) (by decide +kernel) rfl rfl (Nat.le_of_ble_eq_true rfl) dX3_init_66 ?_
  refine y_e (e1 := .inr (3, [.int 0, .int 0, .int 0, .int 1, .int 0, .int 0, .int 0, .int 0, .int 0, .int (-1), .int (-1), .int (-1), .int 0, .null, .null, .null])) rfl ?_
  refine y_aload_n X 0 dX3_init_69 rfl rfl ?_
  refine y_bipush (v := 12) X (by decide) dX3_init_70 ?_
  refine y_newI X 12 yw_X3_init_arI (by decide) rfl (Nat.le_of_ble_eq_true rfl) (Nat.le_of_ble_eq_true rfl) (Nat.le_of_ble_eq_true rfl) dX3_init_72 ?_
  refine y_putF X hin (C := RX3) (T := TX3) (N := 16) rfl 13 (by decide) yi_X3_init_X3 yl_X3_init_52 rfl tyX3_ok nmX3 rfl rfl (ty := .array .int) (by decide +kernel) rfl rfl (Nat.le_of_ble_eq_true rfl) dX3_init_74 ?_
  refine y_e (e1 := .inr (3, [.int 0, .int 0, .int 0, .int 1, .int 0, .int 0, .int 0, .int 0, .int 0, .int (-1), .int (-1), .int (-1), .int 0, .ref (s9.heap.size + 0), .null, .null])) rfl ?_
  refine y_aload_n X 0 dX3_init_77 rfl rfl ?_
  refine y_bipush (v := 12) X (by decide) dX3_init_78 ?_
  refine y_newI X 12 yw_X3_init_arI (by decide) rfl (Nat.le_of_ble_eq_true rfl) (Nat.le_of_ble_eq_true rfl) (Nat.le_of_ble_eq_true rfl) dX3_init_80 ?_
  refine y_putF X hin (C := RX3) (T := TX3) (N := 16) rfl 14 (by decide) yi_X3_init_X3 yl_X3_init_56 rfl tyX3_ok nmX3 rfl rfl (ty := .array .int) (by decide +kernel) rfl rfl (Nat.le_of_ble_eq_true rfl) dX3_init_82 ?_
  refine y_e (e1 := .inr (3, [.int 0, .int 0, .int 0, .int 1, .int 0, .int 0, .int 0, .int 0, .int 0, .int (-1), .int (-1), .int (-1), .int 0, .ref (s9.heap.size + 0), .ref (s9.heap.size + 1), .null])) rfl ?_
  refine y_aload_n X 0 dX3_init_85 rfl rfl ?_
  refine y_bipush (v := 12) X (by decide) dX3_init_86 ?_
  refine y_newI X 12 yw_X3_init_arI (by decide) rfl (Nat.le_of_ble_eq_true rfl) (Nat.le_of_ble_eq_true rfl) (Nat.le_of_ble_eq_true rfl) dX3_init_88 ?_
  refine y_putF X hin (C := RX3) (T := TX3) (N := 16) rfl 15 (by decide) yi_X3_init_X3 yl_X3_init_59 rfl tyX3_ok nmX3 rfl rfl (ty := .array .int) (by decide +kernel) rfl rfl (Nat.le_of_ble_eq_true rfl) dX3_init_90 ?_
  refine y_e (e1 := .inr (3, [.int 0, .int 0, .int 0, .int 1, .int 0, .int 0, .int 0, .int 0, .int 0, .int (-1), .int (-1), .int (-1), .int 0, .ref (s9.heap.size + 0), .ref (s9.heap.size + 1), .ref (s9.heap.size + 2)])) rfl ?_
  exact y_end (e1 := (fun _ sz => .inr (3, [.int 0, .int 0, .int 0, .int 1, .int 0, .int 0, .int 0, .int 0, .int 0, .int (-1), .int (-1), .int (-1), .int 0, .ref (sz + 0), .ref (sz + 1), .ref (sz + 2)]))) (ct1 := (fun _ _ _ => .inl (cI, 12, .inl (fun _ => 0)))) (k := 3) (q := 36) X rfl (fun i hi => by rcases (show i = 0 ∨ i = 1 ∨ i = 2 from by have hi9 : i < 3 := hi; omega) with rfl | rfl | rfl <;> rfl) dX3_init_93
theorem yw_X0_init_ob1 : Cond.methodLink RX0 3 Lib.objectInit ∈ wsX0_init := by decide +kernel
theorem yw_X0_init_ob2 : Cond.instanceMethod Lib.objectInit ∈ wsX0_init := by decide +kernel
theorem yw_X0_init_ob3 : Cond.code Lib.objectInit ⟨#[0xb1]⟩ 1 none ∈ wsX0_init := by decide +kernel
theorem yw_X0_init_arI : Cond.arrayClass .int ∈ wsX0_init := by decide +kernel
theorem yi_X0_init_X0 : ∀ w ∈ wsX00, w ∈ wsX0_init := by decide +kernel
theorem yl_X0_init_9 : Cond.fieldLink RX0 9 RX0 (TX0 0).2.1 (TX0 0).2.2.1 ∈ wsX0_init := by decide +kernel
theorem yl_X0_init_15 : Cond.fieldLink RX0 15 RX0 (TX0 1).2.1 (TX0 1).2.2.1 ∈ wsX0_init := by decide +kernel
theorem yl_X0_init_18 : Cond.fieldLink RX0 18 RX0 (TX0 2).2.1 (TX0 2).2.2.1 ∈ wsX0_init := by decide +kernel
theorem yl_X0_init_21 : Cond.fieldLink RX0 21 RX0 (TX0 3).2.1 (TX0 3).2.2.1 ∈ wsX0_init := by decide +kernel
theorem yl_X0_init_24 : Cond.fieldLink RX0 24 RX0 (TX0 4).2.1 (TX0 4).2.2.1 ∈ wsX0_init := by decide +kernel
theorem yl_X0_init_27 : Cond.fieldLink RX0 27 RX0 (TX0 5).2.1 (TX0 5).2.2.1 ∈ wsX0_init := by decide +kernel
theorem yl_X0_init_30 : Cond.fieldLink RX0 30 RX0 (TX0 6).2.1 (TX0 6).2.2.1 ∈ wsX0_init := by decide +kernel
theorem yl_X0_init_33 : Cond.fieldLink RX0 33 RX0 (TX0 7).2.1 (TX0 7).2.2.1 ∈ wsX0_init := by decide +kernel
theorem yl_X0_init_36 : Cond.fieldLink RX0 36 RX0 (TX0 8).2.1 (TX0 8).2.2.1 ∈ wsX0_init := by decide +kernel
theorem yl_X0_init_39 : Cond.fieldLink RX0 39 RX0 (TX0 9).2.1 (TX0 9).2.2.1 ∈ wsX0_init := by decide +kernel
theorem yl_X0_init_42 : Cond.fieldLink RX0 42 RX0 (TX0 10).2.1 (TX0 10).2.2.1 ∈ wsX0_init := by decide +kernel
theorem yl_X0_init_46 : Cond.fieldLink RX0 46 RX0 (TX0 11).2.1 (TX0 11).2.2.1 ∈ wsX0_init := by decide +kernel
set_option maxRecDepth 100000 in
set_option maxHeartbeats 4000000 in
/-- X0_init -/
theorem y_X0_init (l : Launch) (G : va_G) (cI cZ cT : ClassId) : zN l G cI cZ cT yX0_init wsX0_init { frames := 1, cells := 10, slots := 1440, locals := 23 } (.inr (0, [.null, .null, .null, .null, .null, .null, .null, .null, .null, .null, .int 0, .int 0])) (fun _ sz => .inr (0, [.ref (sz + 0), .ref (sz + 1), .ref (sz + 2), .ref (sz + 3), .ref (sz + 4), .ref (sz + 5), .ref (sz + 6), .ref (sz + 7), .ref (sz + 8), .ref (sz + 9), .int 0, .int 0])) 10 1440 (fun _ _ i => .inl (cI, 144, .inl (if i = 0 then (fun _ => 3) else if i = 1 then (fun _ => -1) else (fun _ => 0)))) := by
  refine y_of (cc := cX0_init) (maxL := 1) (by decide) rfl rfl (by decide) ?_
  intro p9 e9 s9 m9 a9 b9 h9 c9 h0 X hin hh
  refine y_aload_n X 0 dX0_init_0 rfl rfl ?_
  refine y_obj X yw_X0_init_ob1 yw_X0_init_ob2 yw_X0_init_ob3 (Nat.le_of_ble_eq_true rfl) (Nat.le_of_ble_eq_true rfl) dX0_init_1 ?_
  refine y_aload_n X 0 dX0_init_4 rfl rfl ?_
  refine y_sipush (v := 144) X (by decide) dX0_init_5 ?_
  refine y_newI X 144 yw_X0_init_arI (by decide) rfl (Nat.le_of_ble_eq_true rfl) (Nat.le_of_ble_eq_true rfl) (Nat.le_of_ble_eq_true rfl) dX0_init_8 ?_
  refine y_putF X hin (C := RX0) (T := TX0) (N := 12) rfl 0 (by decide) yi_X0_init_X0 yl_X0_init_9 rfl tyX0_ok nmX0 rfl rfl (ty := .array .int) (by decide +kernel) rfl rfl (Nat.le_of_ble_eq_true rfl) dX0_init_10 ?_
  refine y_e (e1 := .inr (0, [.ref (s9.heap.size + 0), .null, .null, .null, .null, .null, .null, .null, .null, .null, .int 0, .int 0])) rfl ?_
  refine y_aload_n X 0 dX0_init_13 rfl rfl ?_
  refine y_sipush (v := 144) X (by decide) dX0_init_14 ?_
  refine y_newI X 144 yw_X0_init_arI (by decide) rfl (Nat.le_of_ble_eq_true rfl) (Nat.le_of_ble_eq_true rfl) (Nat.le_of_ble_eq_true rfl) dX0_init_17 ?_
  refine y_putF X hin (C := RX0) (T := TX0) (N := 12) rfl 1 (by decide) yi_X0_init_X0 yl_X0_init_15 rfl tyX0_ok nmX0 rfl rfl (ty := .array .int) (by decide +kernel) rfl rfl (Nat.le_of_ble_eq_true rfl) dX0_init_19 ?_
  refine y_e (e1 := .inr (0, [.ref (s9.heap.size + 0), .ref (s9.heap.size + 1), .null, .null, .null, .null, .null, .null, .null, .null, .int 0, .int 0])) rfl ?_
  refine y_aload_n X 0 dX0_init_22 rfl rfl ?_
  refine y_sipush (v := 144) X (by decide) dX0_init_23 ?_
  refine y_newI X 144 yw_X0_init_arI (by decide) rfl (Nat.le_of_ble_eq_true rfl) (Nat.le_of_ble_eq_true rfl) (Nat.le_of_ble_eq_true rfl) dX0_init_26 ?_
  refine y_putF X hin (C := RX0) (T := TX0) (N := 12) rfl 2 (by decide) yi_X0_init_X0 yl_X0_init_18 rfl tyX0_ok nmX0 rfl rfl (ty := .array .int) (by decide +kernel) rfl rfl (Nat.le_of_ble_eq_true rfl) dX0_init_28 ?_
  refine y_e (e1 := .inr (0, [.ref (s9.heap.size + 0), .ref (s9.heap.size + 1), .ref (s9.heap.size + 2), .null, .null, .null, .null, .null, .null, .null, .int 0, .int 0])) rfl ?_
  refine y_aload_n X 0 dX0_init_31 rfl rfl ?_
  refine y_sipush (v := 144) X (by decide) dX0_init_32 ?_
  refine y_newI X 144 yw_X0_init_arI (by decide) rfl (Nat.le_of_ble_eq_true rfl) (Nat.le_of_ble_eq_true rfl) (Nat.le_of_ble_eq_true rfl) dX0_init_35 ?_
  refine y_putF X hin (C := RX0) (T := TX0) (N := 12) rfl 3 (by decide) yi_X0_init_X0 yl_X0_init_21 rfl tyX0_ok nmX0 rfl rfl (ty := .array .int) (by decide +kernel) rfl rfl (Nat.le_of_ble_eq_true rfl) dX0_init_37 ?_
  refine y_e (e1 := .inr (0, [.ref (s9.heap.size + 0), .ref (s9.heap.size + 1), .ref (s9.heap.size + 2), .ref (s9.heap.size + 3), .null, .null, .null, .null, .null, .null, .int 0, .int 0])) rfl ?_
  refine y_aload_n X 0 dX0_init_40 rfl rfl ?_
  refine y_sipush (v := 144) X (by decide) dX0_init_41 ?_
  refine y_newI X 144 yw_X0_init_arI (by decide) rfl (Nat.le_of_ble_eq_true rfl) (Nat.le_of_ble_eq_true rfl) (Nat.le_of_ble_eq_true rfl) dX0_init_44 ?_
  refine y_putF X hin (C := RX0) (T := TX0) (N := 12) rfl 4 (by decide) yi_X0_init_X0 yl_X0_init_24 rfl tyX0_ok nmX0 rfl rfl (ty := .array .int) (by decide +kernel) rfl rfl (Nat.le_of_ble_eq_true rfl) dX0_init_46 ?_
  refine y_e (e1 := .inr (0, [.ref (s9.heap.size + 0), .ref (s9.heap.size + 1), .ref (s9.heap.size + 2), .ref (s9.heap.size + 3), .ref (s9.heap.size + 4), .null, .null, .null, .null, .null, .int 0, .int 0])) rfl ?_
  refine y_aload_n X 0 dX0_init_49 rfl rfl ?_
  refine y_sipush (v := 144) X (by decide) dX0_init_50 ?_
  refine y_newI X 144 yw_X0_init_arI (by decide) rfl (Nat.le_of_ble_eq_true rfl) (Nat.le_of_ble_eq_true rfl) (Nat.le_of_ble_eq_true rfl) dX0_init_53 ?_
  refine y_putF X hin (C := RX0) (T := TX0) (N := 12) rfl 5 (by decide) yi_X0_init_X0 yl_X0_init_27 rfl tyX0_ok nmX0 rfl rfl (ty := .array .int) (by decide +kernel) rfl rfl (Nat.le_of_ble_eq_true rfl) dX0_init_55 ?_
  refine y_e (e1 := .inr (0, [.ref (s9.heap.size + 0), .ref (s9.heap.size + 1), .ref (s9.heap.size + 2), .ref (s9.heap.size + 3), .ref (s9.heap.size + 4), .ref (s9.heap.size + 5), .null, .null, .null, .null, .int 0, .int 0])) rfl ?_
  refine y_aload_n X 0 dX0_init_58 rfl rfl ?_
  refine y_sipush (v := 144) X (by decide) dX0_init_59 ?_
  refine y_newI X 144 yw_X0_init_arI (by decide) rfl (Nat.le_of_ble_eq_true rfl) (Nat.le_of_ble_eq_true rfl) (Nat.le_of_ble_eq_true rfl) dX0_init_62 ?_
  refine y_putF X hin (C := RX0) (T := TX0) (N := 12) rfl 6 (by decide) yi_X0_init_X0 yl_X0_init_30 rfl tyX0_ok nmX0 rfl rfl (ty := .array .int) (by decide +kernel) rfl rfl (Nat.le_of_ble_eq_true rfl) dX0_init_64 ?_
  refine y_e (e1 := .inr (0, [.ref (s9.heap.size + 0), .ref (s9.heap.size + 1), .ref (s9.heap.size + 2), .ref (s9.heap.size + 3), .ref (s9.heap.size + 4), .ref (s9.heap.size + 5), .ref (s9.heap.size + 6), .null, .null, .null, .int 0, .int 0])) rfl ?_
  refine y_aload_n X 0 dX0_init_67 rfl rfl ?_
  refine y_sipush (v := 144) X (by decide) dX0_init_68 ?_
  refine y_newI X 144 yw_X0_init_arI (by decide) rfl (Nat.le_of_ble_eq_true rfl) (Nat.le_of_ble_eq_true rfl) (Nat.le_of_ble_eq_true rfl) dX0_init_71 ?_
  refine y_putF X hin (C := RX0) (T := TX0) (N := 12) rfl 7 (by decide) yi_X0_init_X0 yl_X0_init_33 rfl tyX0_ok nmX0 rfl rfl (ty := .array .int) (by decide +kernel) rfl rfl (Nat.le_of_ble_eq_true rfl) dX0_init_73 ?_
  refine y_e (e1 := .inr (0, [.ref (s9.heap.size + 0), .ref (s9.heap.size + 1), .ref (s9.heap.size + 2), .ref (s9.heap.size + 3), .ref (s9.heap.size + 4), .ref (s9.heap.size + 5), .ref (s9.heap.size + 6), .ref (s9.heap.size + 7), .null, .null, .int 0, .int 0])) rfl ?_
  refine y_aload_n X 0 dX0_init_76 rfl rfl ?_
  refine y_sipush (v := 144) X (by decide) dX0_init_77 ?_
  refine y_newI X 144 yw_X0_init_arI (by decide) rfl (Nat.le_of_ble_eq_true rfl) (Nat.le_of_ble_eq_true rfl) (Nat.le_of_ble_eq_true rfl) dX0_init_80 ?_
  refine y_putF X hin (C := RX0) (T := TX0) (N := 12) rfl 8 (by decide) yi_X0_init_X0 yl_X0_init_36 rfl tyX0_ok nmX0 rfl rfl (ty := .array .int) (by decide +kernel) rfl rfl (Nat.le_of_ble_eq_true rfl) dX0_init_82 ?_
  refine y_e (e1 := .inr (0, [.ref (s9.heap.size + 0), .ref (s9.heap.size + 1), .ref (s9.heap.size + 2), .ref (s9.heap.size + 3), .ref (s9.heap.size + 4), .ref (s9.heap.size + 5), .ref (s9.heap.size + 6), .ref (s9.heap.size + 7), .ref (s9.heap.size + 8), .null, .int 0, .int 0])) rfl ?_
  refine y_aload_n X 0 dX0_init_85 rfl rfl ?_
  refine y_sipush (v := 144) X (by decide) dX0_init_86 ?_
  refine y_newI X 144 yw_X0_init_arI (by decide) rfl (Nat.le_of_ble_eq_true rfl) (Nat.le_of_ble_eq_true rfl) (Nat.le_of_ble_eq_true rfl) dX0_init_89 ?_
  refine y_putF X hin (C := RX0) (T := TX0) (N := 12) rfl 9 (by decide) yi_X0_init_X0 yl_X0_init_39 rfl tyX0_ok nmX0 rfl rfl (ty := .array .int) (by decide +kernel) rfl rfl (Nat.le_of_ble_eq_true rfl) dX0_init_91 ?_
  refine y_e (e1 := .inr (0, [.ref (s9.heap.size + 0), .ref (s9.heap.size + 1), .ref (s9.heap.size + 2), .ref (s9.heap.size + 3), .ref (s9.heap.size + 4), .ref (s9.heap.size + 5), .ref (s9.heap.size + 6), .ref (s9.heap.size + 7), .ref (s9.heap.size + 8), .ref (s9.heap.size + 9), .int 0, .int 0])) rfl ?_
  refine y_aload_n X 0 dX0_init_94 rfl rfl ?_
  refine y_iconst (v := 0) X (by decide) dX0_init_95 ?_
  refine y_put X (C := RX0) (T := TX0) (N := 12) rfl 10 (by decide) yi_X0_init_X0 yl_X0_init_42 rfl tyX0_ok nmX0 rfl (ty := .int) (by decide +kernel) rfl rfl (Nat.le_of_ble_eq_true rfl) dX0_init_96 ?_
  refine y_e (e1 := .inr (0, [.ref (s9.heap.size + 0), .ref (s9.heap.size + 1), .ref (s9.heap.size + 2), .ref (s9.heap.size + 3), .ref (s9.heap.size + 4), .ref (s9.heap.size + 5), .ref (s9.heap.size + 6), .ref (s9.heap.size + 7), .ref (s9.heap.size + 8), .ref (s9.heap.size + 9), .int 0, .int 0])) rfl ?_
  refine y_aload_n X 0 dX0_init_99 rfl rfl ?_
  refine y_iconst (v := 0) X (by decide) dX0_init_100 ?_
  refine y_put X (C := RX0) (T := TX0) (N := 12) rfl 11 (by decide) yi_X0_init_X0 yl_X0_init_46 rfl tyX0_ok nmX0 rfl (ty := .int) (by decide +kernel) rfl rfl (Nat.le_of_ble_eq_true rfl) dX0_init_101 ?_
  refine y_e (e1 := .inr (0, [.ref (s9.heap.size + 0), .ref (s9.heap.size + 1), .ref (s9.heap.size + 2), .ref (s9.heap.size + 3), .ref (s9.heap.size + 4), .ref (s9.heap.size + 5), .ref (s9.heap.size + 6), .ref (s9.heap.size + 7), .ref (s9.heap.size + 8), .ref (s9.heap.size + 9), .int 0, .int 0])) rfl ?_
  refine y_aload_n X 0 dX0_init_104 rfl rfl ?_
  refine y_get X (C := RX0) (T := TX0) (N := 12) (ty0 := tyX0) rfl 0 (by decide) yi_X0_init_X0 yl_X0_init_9 rfl (v := .ref (s9.heap.size + 0)) rfl dX0_init_105 ?_
  refine y_iconst (v := 3) X (by decide) dX0_init_108 ?_
  refine y_fill X 0 (by decide) (y_J7_fill l G cI cZ cT 144 (fun _ => 0) 3 (by decide)) rfl hh gX0_init_J7_fill_53178 rfl ⟨rfl, rfl⟩ yh_fill ⟨Nat.le_of_ble_eq_true rfl, Nat.le_of_ble_eq_true rfl⟩ (Nat.le_of_ble_eq_true rfl) ⟨Nat.le_of_ble_eq_true rfl, Nat.le_of_ble_eq_true rfl⟩ dX0_init_109 ?_
  refine y_aload_n X 0 dX0_init_112 rfl rfl ?_
  refine y_get X (C := RX0) (T := TX0) (N := 12) (ty0 := tyX0) rfl 1 (by decide) yi_X0_init_X0 yl_X0_init_15 rfl (v := .ref (s9.heap.size + 1)) rfl dX0_init_113 ?_
  refine y_iconst (v := -1) X (by decide) dX0_init_116 ?_
  refine y_fill X 1 (by decide) (y_J7_fill l G cI cZ cT 144 (fun _ => 0) (-1) (by decide)) rfl hh gX0_init_J7_fill_53178 rfl ⟨rfl, rfl⟩ yh_fill ⟨Nat.le_of_ble_eq_true rfl, Nat.le_of_ble_eq_true rfl⟩ (Nat.le_of_ble_eq_true rfl) ⟨Nat.le_of_ble_eq_true rfl, Nat.le_of_ble_eq_true rfl⟩ dX0_init_117 ?_
  exact y_end (e1 := (fun _ sz => .inr (0, [.ref (sz + 0), .ref (sz + 1), .ref (sz + 2), .ref (sz + 3), .ref (sz + 4), .ref (sz + 5), .ref (sz + 6), .ref (sz + 7), .ref (sz + 8), .ref (sz + 9), .int 0, .int 0]))) (ct1 := (fun _ _ i => .inl (cI, 144, .inl (if i = 0 then (fun _ => 3) else if i = 1 then (fun _ => -1) else (fun _ => 0))))) (k := 10) (q := 1440) X rfl (fun i hi => by rcases (show i = 0 ∨ i = 1 ∨ i = 2 ∨ i = 3 ∨ i = 4 ∨ i = 5 ∨ i = 6 ∨ i = 7 ∨ i = 8 ∨ i = 9 from by have hi9 : i < 10 := hi; omega) with rfl | rfl | rfl | rfl | rfl | rfl | rfl | rfl | rfl | rfl <;> rfl) dX0_init_120
def y_sg (cI cT : ClassId) (sz i : Nat) : va_E :=
  if i = 0 then (.inr (0, [.ref (sz + 1), .ref (sz + 2), .ref (sz + 3), .ref (sz + 4), .ref (sz + 5), .ref (sz + 6), .ref (sz + 7), .ref (sz + 8), .ref (sz + 9), .ref (sz + 10), .int 0, .int 0]))
  else if i < 11 then .inl (cI, 144, .inl (if i = 1 then (fun _ => 3) else if i = 2 then (fun _ => -1) else (fun _ => 0)))
  else if i = 11 then .inl (cT, 8, .inr (.inr (.inr (.inr (fun t => some (sz + (12 + 4 * t)))))))
  else if (i - 12) % 4 = 0 then .inr (3, [.int 0, .int 0, .int 0, .int 1, .int 0, .int 0, .int 0, .int 0, .int 0, .int (-1), .int (-1), .int (-1), .int 0, .ref (sz + (i + 1)), .ref (sz + (i + 2)), .ref (sz + (i + 3))])
  else .inl (cI, 12, .inl (fun _ => 0))
theorem yw_X1_init_ob1 : Cond.methodLink RX1 3 Lib.objectInit ∈ wsX1_init := by decide +kernel
theorem yw_X1_init_ob2 : Cond.instanceMethod Lib.objectInit ∈ wsX1_init := by decide +kernel
theorem yw_X1_init_ob3 : Cond.code Lib.objectInit ⟨#[0xb1]⟩ 1 none ∈ wsX1_init := by decide +kernel
theorem yw_X1_init_cl9 : Cond.classLink RX1 9 RX0 ∈ wsX1_init := by decide +kernel
theorem yw_X1_init_inX0 : Cond.instantiable RX0 12 ∈ wsX1_init := by decide +kernel
theorem yw_X1_init_iniX0 : Cond.initialized RX0 ∈ wsX1_init := by decide +kernel
theorem yi_X1_init_X0 : ∀ w ∈ wsX00, w ∈ wsX1_init := by decide +kernel
theorem yh_X0_init : yX0_init.cls ≠ "java/lang/invoke/MethodHandle" ∧ yX0_init.cls ≠ "java/lang/invoke/VarHandle" ∧ (parseMethodDescriptor yX0_init.desc).map (fun d => d.parameters.length) = some 0 := by decide +kernel
theorem yw_X1_init_icX0 : Cond.initialized yX0_init.cls ∈ wsX1_init := by decide +kernel
theorem yw_X1_init_imX0 : Cond.instanceMethod yX0_init ∈ wsX1_init := by decide +kernel
theorem yw_X1_init_ml11 : Cond.methodLink RX1 11 yX0_init ∈ wsX1_init := by decide +kernel
theorem yi_X1_init_X1 : ∀ w ∈ wsX10, w ∈ wsX1_init := by decide +kernel
theorem yl_X1_init_12 : Cond.fieldLink RX1 12 RX1 (TX1 0).2.1 (TX1 0).2.2.1 ∈ wsX1_init := by decide +kernel
theorem yw_X1_init_cl18 : Cond.classLink RX1 18 "SapperWar$Team" ∈ wsX1_init := by decide +kernel
theorem yl_X1_init_20 : Cond.fieldLink RX1 20 RX1 (TX1 1).2.1 (TX1 1).2.2.1 ∈ wsX1_init := by decide +kernel
theorem yl_X1_init_24 : Cond.fieldLink RX1 24 RX1 (TX1 2).2.1 (TX1 2).2.2.1 ∈ wsX1_init := by decide +kernel
theorem yl_X1_init_28 : Cond.fieldLink RX1 28 RX1 (TX1 3).2.1 (TX1 3).2.2.1 ∈ wsX1_init := by decide +kernel
theorem yw_X1_init_inX3 : Cond.instantiable RX3 16 ∈ wsX1_init := by decide +kernel
theorem yw_X1_init_iniX3 : Cond.initialized RX3 ∈ wsX1_init := by decide +kernel
theorem yi_X1_init_X3 : ∀ w ∈ wsX30, w ∈ wsX1_init := by decide +kernel
theorem yh_X3_init : yX3_init.cls ≠ "java/lang/invoke/MethodHandle" ∧ yX3_init.cls ≠ "java/lang/invoke/VarHandle" ∧ (parseMethodDescriptor yX3_init.desc).map (fun d => d.parameters.length) = some 0 := by decide +kernel
theorem yw_X1_init_icX3 : Cond.initialized yX3_init.cls ∈ wsX1_init := by decide +kernel
theorem yw_X1_init_imX3 : Cond.instanceMethod yX3_init ∈ wsX1_init := by decide +kernel
set_option maxRecDepth 100000 in
set_option maxHeartbeats 4000000 in
/-- X1_init -/
theorem y_X1_init (l : Launch) (G : va_G) (cI cZ cT : ClassId) : zN l G cI cZ cT yX1_init wsX1_init { frames := 2, cells := 44, slots := 1876, locals := 43 } (.inr (1, [.null, .null, .int 0, .int 0])) (fun _ sz => .inr (1, [.ref (sz + 0), .ref (sz + 11), .int 0, .int 0])) 44 1876 (fun _ sz i => y_sg cI cT sz i) := by
  refine y_of (cc := cX1_init) (maxL := 2) (by decide) rfl rfl (by decide) ?_
  intro p9 e9 s9 m9 a9 b9 h9 c9 h0 X hin hh
  refine y_aload_n X 0 dX1_init_0 rfl rfl ?_
  refine y_obj X yw_X1_init_ob1 yw_X1_init_ob2 yw_X1_init_ob3 (Nat.le_of_ble_eq_true rfl) (Nat.le_of_ble_eq_true rfl) dX1_init_1 ?_
  refine y_aload_n X 0 dX1_init_4 rfl rfl ?_
  refine y_new X (ci := 0) (C := RX0) (T := TX0) (N := 12) (fs := [.null, .null, .null, .null, .null, .null, .null, .null, .null, .null, .int 0, .int 0]) yi_X1_init_X0 tyX0_ok yw_X1_init_cl9 yw_X1_init_inX0 yw_X1_init_iniX0 rfl (fun j hj => by rcases (show j = 0 ∨ j = 1 ∨ j = 2 ∨ j = 3 ∨ j = 4 ∨ j = 5 ∨ j = 6 ∨ j = 7 ∨ j = 8 ∨ j = 9 ∨ j = 10 ∨ j = 11 by omega) with rfl | rfl | rfl | rfl | rfl | rfl | rfl | rfl | rfl | rfl | rfl | rfl <;> rfl) (Nat.le_of_ble_eq_true rfl) (Nat.le_of_ble_eq_true rfl) dX1_init_5 ?_
  refine y_dup X rfl dX1_init_8 ?_
  refine y_callI X 0 (by decide) (y_X0_init l G cI cZ cT) rfl hh yw_X1_init_ml11 gX1_init_X0_init yw_X1_init_icX0 yw_X1_init_imX0 rfl rfl ⟨rfl, rfl⟩ yh_X0_init ⟨Nat.le_of_ble_eq_true rfl, Nat.le_of_ble_eq_true rfl⟩ (Nat.le_of_ble_eq_true rfl) ⟨Nat.le_of_ble_eq_true rfl, Nat.le_of_ble_eq_true rfl⟩ dX1_init_9 ?_
  refine y_putF X hin (C := RX1) (T := TX1) (N := 4) rfl 0 (by decide) yi_X1_init_X1 yl_X1_init_12 rfl tyX1_ok nmX1 rfl rfl (ty := .object "SapperWar$Grid") (by decide +kernel) rfl rfl (Nat.le_of_ble_eq_true rfl) dX1_init_12 ?_
  refine y_e (e1 := .inr (1, [.ref (s9.heap.size + 0), .null, .int 0, .int 0])) rfl ?_
  refine y_aload_n X 0 dX1_init_15 rfl rfl ?_
  refine y_bipush (v := 8) X (by decide) dX1_init_16 ?_
  refine y_newT X 8 yw_X1_init_cl18 (by decide) rfl (Nat.le_of_ble_eq_true rfl) (Nat.le_of_ble_eq_true rfl) (Nat.le_of_ble_eq_true rfl) dX1_init_18 ?_
  refine y_putF X hin (C := RX1) (T := TX1) (N := 4) rfl 1 (by decide) yi_X1_init_X1 yl_X1_init_20 rfl tyX1_ok nmX1 rfl rfl (ty := .array (.object "SapperWar$Team")) (by decide +kernel) rfl rfl (Nat.le_of_ble_eq_true rfl) dX1_init_21 ?_
  refine y_e (e1 := .inr (1, [.ref (s9.heap.size + 0), .ref (s9.heap.size + 11), .int 0, .int 0])) rfl ?_
  refine y_aload_n X 0 dX1_init_24 rfl rfl ?_
  refine y_iconst (v := 0) X (by decide) dX1_init_25 ?_
  refine y_put X (C := RX1) (T := TX1) (N := 4) rfl 2 (by decide) yi_X1_init_X1 yl_X1_init_24 rfl tyX1_ok nmX1 rfl (ty := .int) (by decide +kernel) rfl rfl (Nat.le_of_ble_eq_true rfl) dX1_init_26 ?_
  refine y_e (e1 := .inr (1, [.ref (s9.heap.size + 0), .ref (s9.heap.size + 11), .int 0, .int 0])) rfl ?_
  refine y_aload_n X 0 dX1_init_29 rfl rfl ?_
  refine y_iconst (v := 0) X (by decide) dX1_init_30 ?_
  refine y_put X (C := RX1) (T := TX1) (N := 4) rfl 3 (by decide) yi_X1_init_X1 yl_X1_init_28 rfl tyX1_ok nmX1 rfl (ty := .int) (by decide +kernel) rfl rfl (Nat.le_of_ble_eq_true rfl) dX1_init_31 ?_
  refine y_e (e1 := .inr (1, [.ref (s9.heap.size + 0), .ref (s9.heap.size + 11), .int 0, .int 0])) rfl ?_
  refine y_iconst (v := 0) X (by decide) dX1_init_34 ?_
  refine y_istore_n (lo' := [(1, .int 0), (0, .ref h0)]) X dX1_init_35 rfl (by decide) rfl ?_
  refine y_iload_n X 0 dX1_init_36 rfl rfl ?_
  refine y_bipush (v := 8) X (by decide) dX1_init_37 ?_
  refine y_ge_no (tgt := 61) X (by decide) dX1_init_39 (by decide) ?_
  refine y_aload_n X 1 dX1_init_42 rfl rfl ?_
  refine y_get X (C := RX1) (T := TX1) (N := 4) (ty0 := tyX1) rfl 1 (by decide) yi_X1_init_X1 yl_X1_init_20 rfl (v := .ref (s9.heap.size + 11)) rfl dX1_init_43 ?_
  refine y_iload_n X 0 dX1_init_46 rfl rfl ?_
  refine y_new X (ci := 3) (C := RX3) (T := TX3) (N := 16) (fs := [.int 0, .int 0, .int 0, .int 0, .int 0, .int 0, .int 0, .int 0, .int 0, .int 0, .int 0, .int 0, .int 0, .null, .null, .null]) yi_X1_init_X3 tyX3_ok yw_X1_init_cl18 yw_X1_init_inX3 yw_X1_init_iniX3 rfl (fun j hj => by rcases (show j = 0 ∨ j = 1 ∨ j = 2 ∨ j = 3 ∨ j = 4 ∨ j = 5 ∨ j = 6 ∨ j = 7 ∨ j = 8 ∨ j = 9 ∨ j = 10 ∨ j = 11 ∨ j = 12 ∨ j = 13 ∨ j = 14 ∨ j = 15 by omega) with rfl | rfl | rfl | rfl | rfl | rfl | rfl | rfl | rfl | rfl | rfl | rfl | rfl | rfl | rfl | rfl <;> rfl) (Nat.le_of_ble_eq_true rfl) (Nat.le_of_ble_eq_true rfl) dX1_init_47 ?_
  refine y_dup X rfl dX1_init_50 ?_
  refine y_callIN X 12 (by decide) (y_X3_init l G cI cZ cT) rfl hh X.2.2.1.2.1 gX1_init_X3_init_n31 yw_X1_init_icX3 yw_X1_init_imX3 rfl rfl ⟨rfl, rfl⟩ yh_X3_init ⟨Nat.le_of_ble_eq_true rfl, Nat.le_of_ble_eq_true rfl⟩ (Nat.le_of_ble_eq_true rfl) ⟨Nat.le_of_ble_eq_true rfl, Nat.le_of_ble_eq_true rfl⟩ dX1_init_51 ?_
  refine y_astT X 11 12 (by decide) (by decide) rfl rfl (a := 0) rfl (by decide) (by decide) dX1_init_54 ?_
  refine y_iinc (v := 1) (lo' := [(1, .int 1), (0, .ref h0)]) X 0 dX1_init_55 rfl (by decide) (by decide) rfl ?_
  refine y_goto (tgt := 36) X dX1_init_58 (by decide) ?_
  refine y_iload_n X 0 dX1_init_36 rfl rfl ?_
  refine y_bipush (v := 8) X (by decide) dX1_init_37 ?_
  refine y_ge_no (tgt := 61) X (by decide) dX1_init_39 (by decide) ?_
  refine y_aload_n X 1 dX1_init_42 rfl rfl ?_
  refine y_get X (C := RX1) (T := TX1) (N := 4) (ty0 := tyX1) rfl 1 (by decide) yi_X1_init_X1 yl_X1_init_20 rfl (v := .ref (s9.heap.size + 11)) rfl dX1_init_43 ?_
  refine y_iload_n X 0 dX1_init_46 rfl rfl ?_
  refine y_new X (ci := 3) (C := RX3) (T := TX3) (N := 16) (fs := [.int 0, .int 0, .int 0, .int 0, .int 0, .int 0, .int 0, .int 0, .int 0, .int 0, .int 0, .int 0, .int 0, .null, .null, .null]) yi_X1_init_X3 tyX3_ok yw_X1_init_cl18 yw_X1_init_inX3 yw_X1_init_iniX3 rfl (fun j hj => by rcases (show j = 0 ∨ j = 1 ∨ j = 2 ∨ j = 3 ∨ j = 4 ∨ j = 5 ∨ j = 6 ∨ j = 7 ∨ j = 8 ∨ j = 9 ∨ j = 10 ∨ j = 11 ∨ j = 12 ∨ j = 13 ∨ j = 14 ∨ j = 15 by omega) with rfl | rfl | rfl | rfl | rfl | rfl | rfl | rfl | rfl | rfl | rfl | rfl | rfl | rfl | rfl | rfl <;> rfl) (Nat.le_of_ble_eq_true rfl) (Nat.le_of_ble_eq_true rfl) dX1_init_47 ?_
  refine y_dup X rfl dX1_init_50 ?_
  refine y_callIN X 16 (by decide) (y_X3_init l G cI cZ cT) rfl hh X.2.2.1.2.1 gX1_init_X3_init_n31 yw_X1_init_icX3 yw_X1_init_imX3 rfl rfl ⟨rfl, rfl⟩ yh_X3_init ⟨Nat.le_of_ble_eq_true rfl, Nat.le_of_ble_eq_true rfl⟩ (Nat.le_of_ble_eq_true rfl) ⟨Nat.le_of_ble_eq_true rfl, Nat.le_of_ble_eq_true rfl⟩ dX1_init_51 ?_
  refine y_astT X 11 16 (by decide) (by decide) rfl rfl (a := 1) rfl (by decide) (by decide) dX1_init_54 ?_
  refine y_iinc (v := 2) (lo' := [(1, .int 2), (0, .ref h0)]) X 0 dX1_init_55 rfl (by decide) (by decide) rfl ?_
  refine y_goto (tgt := 36) X dX1_init_58 (by decide) ?_
  refine y_iload_n X 0 dX1_init_36 rfl rfl ?_
  refine y_bipush (v := 8) X (by decide) dX1_init_37 ?_
  refine y_ge_no (tgt := 61) X (by decide) dX1_init_39 (by decide) ?_
  refine y_aload_n X 1 dX1_init_42 rfl rfl ?_
  refine y_get X (C := RX1) (T := TX1) (N := 4) (ty0 := tyX1) rfl 1 (by decide) yi_X1_init_X1 yl_X1_init_20 rfl (v := .ref (s9.heap.size + 11)) rfl dX1_init_43 ?_
  refine y_iload_n X 0 dX1_init_46 rfl rfl ?_
  refine y_new X (ci := 3) (C := RX3) (T := TX3) (N := 16) (fs := [.int 0, .int 0, .int 0, .int 0, .int 0, .int 0, .int 0, .int 0, .int 0, .int 0, .int 0, .int 0, .int 0, .null, .null, .null]) yi_X1_init_X3 tyX3_ok yw_X1_init_cl18 yw_X1_init_inX3 yw_X1_init_iniX3 rfl (fun j hj => by rcases (show j = 0 ∨ j = 1 ∨ j = 2 ∨ j = 3 ∨ j = 4 ∨ j = 5 ∨ j = 6 ∨ j = 7 ∨ j = 8 ∨ j = 9 ∨ j = 10 ∨ j = 11 ∨ j = 12 ∨ j = 13 ∨ j = 14 ∨ j = 15 by omega) with rfl | rfl | rfl | rfl | rfl | rfl | rfl | rfl | rfl | rfl | rfl | rfl | rfl | rfl | rfl | rfl <;> rfl) (Nat.le_of_ble_eq_true rfl) (Nat.le_of_ble_eq_true rfl) dX1_init_47 ?_
  refine y_dup X rfl dX1_init_50 ?_
  refine y_callIN X 20 (by decide) (y_X3_init l G cI cZ cT) rfl hh X.2.2.1.2.1 gX1_init_X3_init_n31 yw_X1_init_icX3 yw_X1_init_imX3 rfl rfl ⟨rfl, rfl⟩ yh_X3_init ⟨Nat.le_of_ble_eq_true rfl, Nat.le_of_ble_eq_true rfl⟩ (Nat.le_of_ble_eq_true rfl) ⟨Nat.le_of_ble_eq_true rfl, Nat.le_of_ble_eq_true rfl⟩ dX1_init_51 ?_
  refine y_astT X 11 20 (by decide) (by decide) rfl rfl (a := 2) rfl (by decide) (by decide) dX1_init_54 ?_
  refine y_iinc (v := 3) (lo' := [(1, .int 3), (0, .ref h0)]) X 0 dX1_init_55 rfl (by decide) (by decide) rfl ?_
  refine y_goto (tgt := 36) X dX1_init_58 (by decide) ?_
  refine y_iload_n X 0 dX1_init_36 rfl rfl ?_
  refine y_bipush (v := 8) X (by decide) dX1_init_37 ?_
  refine y_ge_no (tgt := 61) X (by decide) dX1_init_39 (by decide) ?_
  refine y_aload_n X 1 dX1_init_42 rfl rfl ?_
  refine y_get X (C := RX1) (T := TX1) (N := 4) (ty0 := tyX1) rfl 1 (by decide) yi_X1_init_X1 yl_X1_init_20 rfl (v := .ref (s9.heap.size + 11)) rfl dX1_init_43 ?_
  refine y_iload_n X 0 dX1_init_46 rfl rfl ?_
  refine y_new X (ci := 3) (C := RX3) (T := TX3) (N := 16) (fs := [.int 0, .int 0, .int 0, .int 0, .int 0, .int 0, .int 0, .int 0, .int 0, .int 0, .int 0, .int 0, .int 0, .null, .null, .null]) yi_X1_init_X3 tyX3_ok yw_X1_init_cl18 yw_X1_init_inX3 yw_X1_init_iniX3 rfl (fun j hj => by rcases (show j = 0 ∨ j = 1 ∨ j = 2 ∨ j = 3 ∨ j = 4 ∨ j = 5 ∨ j = 6 ∨ j = 7 ∨ j = 8 ∨ j = 9 ∨ j = 10 ∨ j = 11 ∨ j = 12 ∨ j = 13 ∨ j = 14 ∨ j = 15 by omega) with rfl | rfl | rfl | rfl | rfl | rfl | rfl | rfl | rfl | rfl | rfl | rfl | rfl | rfl | rfl | rfl <;> rfl) (Nat.le_of_ble_eq_true rfl) (Nat.le_of_ble_eq_true rfl) dX1_init_47 ?_
  refine y_dup X rfl dX1_init_50 ?_
  refine y_callIN X 24 (by decide) (y_X3_init l G cI cZ cT) rfl hh X.2.2.1.2.1 gX1_init_X3_init_n31 yw_X1_init_icX3 yw_X1_init_imX3 rfl rfl ⟨rfl, rfl⟩ yh_X3_init ⟨Nat.le_of_ble_eq_true rfl, Nat.le_of_ble_eq_true rfl⟩ (Nat.le_of_ble_eq_true rfl) ⟨Nat.le_of_ble_eq_true rfl, Nat.le_of_ble_eq_true rfl⟩ dX1_init_51 ?_
  refine y_astT X 11 24 (by decide) (by decide) rfl rfl (a := 3) rfl (by decide) (by decide) dX1_init_54 ?_
  refine y_iinc (v := 4) (lo' := [(1, .int 4), (0, .ref h0)]) X 0 dX1_init_55 rfl (by decide) (by decide) rfl ?_
  refine y_goto (tgt := 36) X dX1_init_58 (by decide) ?_
  refine y_iload_n X 0 dX1_init_36 rfl rfl ?_
  refine y_bipush (v := 8) X (by decide) dX1_init_37 ?_
  refine y_ge_no (tgt := 61) X (by decide) dX1_init_39 (by decide) ?_
  refine y_aload_n X 1 dX1_init_42 rfl rfl ?_
  refine y_get X (C := RX1) (T := TX1) (N := 4) (ty0 := tyX1) rfl 1 (by decide) yi_X1_init_X1 yl_X1_init_20 rfl (v := .ref (s9.heap.size + 11)) rfl dX1_init_43 ?_
  refine y_iload_n X 0 dX1_init_46 rfl rfl ?_
  refine y_new X (ci := 3) (C := RX3) (T := TX3) (N := 16) (fs := [.int 0, .int 0, .int 0, .int 0, .int 0, .int 0, .int 0, .int 0, .int 0, .int 0, .int 0, .int 0, .int 0, .null, .null, .null]) yi_X1_init_X3 tyX3_ok yw_X1_init_cl18 yw_X1_init_inX3 yw_X1_init_iniX3 rfl (fun j hj => by rcases (show j = 0 ∨ j = 1 ∨ j = 2 ∨ j = 3 ∨ j = 4 ∨ j = 5 ∨ j = 6 ∨ j = 7 ∨ j = 8 ∨ j = 9 ∨ j = 10 ∨ j = 11 ∨ j = 12 ∨ j = 13 ∨ j = 14 ∨ j = 15 by omega) with rfl | rfl | rfl | rfl | rfl | rfl | rfl | rfl | rfl | rfl | rfl | rfl | rfl | rfl | rfl | rfl <;> rfl) (Nat.le_of_ble_eq_true rfl) (Nat.le_of_ble_eq_true rfl) dX1_init_47 ?_
  refine y_dup X rfl dX1_init_50 ?_
  refine y_callIN X 28 (by decide) (y_X3_init l G cI cZ cT) rfl hh X.2.2.1.2.1 gX1_init_X3_init_n31 yw_X1_init_icX3 yw_X1_init_imX3 rfl rfl ⟨rfl, rfl⟩ yh_X3_init ⟨Nat.le_of_ble_eq_true rfl, Nat.le_of_ble_eq_true rfl⟩ (Nat.le_of_ble_eq_true rfl) ⟨Nat.le_of_ble_eq_true rfl, Nat.le_of_ble_eq_true rfl⟩ dX1_init_51 ?_
  refine y_astT X 11 28 (by decide) (by decide) rfl rfl (a := 4) rfl (by decide) (by decide) dX1_init_54 ?_
  refine y_iinc (v := 5) (lo' := [(1, .int 5), (0, .ref h0)]) X 0 dX1_init_55 rfl (by decide) (by decide) rfl ?_
  refine y_goto (tgt := 36) X dX1_init_58 (by decide) ?_
  refine y_iload_n X 0 dX1_init_36 rfl rfl ?_
  refine y_bipush (v := 8) X (by decide) dX1_init_37 ?_
  refine y_ge_no (tgt := 61) X (by decide) dX1_init_39 (by decide) ?_
  refine y_aload_n X 1 dX1_init_42 rfl rfl ?_
  refine y_get X (C := RX1) (T := TX1) (N := 4) (ty0 := tyX1) rfl 1 (by decide) yi_X1_init_X1 yl_X1_init_20 rfl (v := .ref (s9.heap.size + 11)) rfl dX1_init_43 ?_
  refine y_iload_n X 0 dX1_init_46 rfl rfl ?_
  refine y_new X (ci := 3) (C := RX3) (T := TX3) (N := 16) (fs := [.int 0, .int 0, .int 0, .int 0, .int 0, .int 0, .int 0, .int 0, .int 0, .int 0, .int 0, .int 0, .int 0, .null, .null, .null]) yi_X1_init_X3 tyX3_ok yw_X1_init_cl18 yw_X1_init_inX3 yw_X1_init_iniX3 rfl (fun j hj => by rcases (show j = 0 ∨ j = 1 ∨ j = 2 ∨ j = 3 ∨ j = 4 ∨ j = 5 ∨ j = 6 ∨ j = 7 ∨ j = 8 ∨ j = 9 ∨ j = 10 ∨ j = 11 ∨ j = 12 ∨ j = 13 ∨ j = 14 ∨ j = 15 by omega) with rfl | rfl | rfl | rfl | rfl | rfl | rfl | rfl | rfl | rfl | rfl | rfl | rfl | rfl | rfl | rfl <;> rfl) (Nat.le_of_ble_eq_true rfl) (Nat.le_of_ble_eq_true rfl) dX1_init_47 ?_
  refine y_dup X rfl dX1_init_50 ?_
  refine y_callIN X 32 (by decide) (y_X3_init l G cI cZ cT) rfl hh X.2.2.1.2.1 gX1_init_X3_init_n31 yw_X1_init_icX3 yw_X1_init_imX3 rfl rfl ⟨rfl, rfl⟩ yh_X3_init ⟨Nat.le_of_ble_eq_true rfl, Nat.le_of_ble_eq_true rfl⟩ (Nat.le_of_ble_eq_true rfl) ⟨Nat.le_of_ble_eq_true rfl, Nat.le_of_ble_eq_true rfl⟩ dX1_init_51 ?_
  refine y_astT X 11 32 (by decide) (by decide) rfl rfl (a := 5) rfl (by decide) (by decide) dX1_init_54 ?_
  refine y_iinc (v := 6) (lo' := [(1, .int 6), (0, .ref h0)]) X 0 dX1_init_55 rfl (by decide) (by decide) rfl ?_
  refine y_goto (tgt := 36) X dX1_init_58 (by decide) ?_
  refine y_iload_n X 0 dX1_init_36 rfl rfl ?_
  refine y_bipush (v := 8) X (by decide) dX1_init_37 ?_
  refine y_ge_no (tgt := 61) X (by decide) dX1_init_39 (by decide) ?_
  refine y_aload_n X 1 dX1_init_42 rfl rfl ?_
  refine y_get X (C := RX1) (T := TX1) (N := 4) (ty0 := tyX1) rfl 1 (by decide) yi_X1_init_X1 yl_X1_init_20 rfl (v := .ref (s9.heap.size + 11)) rfl dX1_init_43 ?_
  refine y_iload_n X 0 dX1_init_46 rfl rfl ?_
  refine y_new X (ci := 3) (C := RX3) (T := TX3) (N := 16) (fs := [.int 0, .int 0, .int 0, .int 0, .int 0, .int 0, .int 0, .int 0, .int 0, .int 0, .int 0, .int 0, .int 0, .null, .null, .null]) yi_X1_init_X3 tyX3_ok yw_X1_init_cl18 yw_X1_init_inX3 yw_X1_init_iniX3 rfl (fun j hj => by rcases (show j = 0 ∨ j = 1 ∨ j = 2 ∨ j = 3 ∨ j = 4 ∨ j = 5 ∨ j = 6 ∨ j = 7 ∨ j = 8 ∨ j = 9 ∨ j = 10 ∨ j = 11 ∨ j = 12 ∨ j = 13 ∨ j = 14 ∨ j = 15 by omega) with rfl | rfl | rfl | rfl | rfl | rfl | rfl | rfl | rfl | rfl | rfl | rfl | rfl | rfl | rfl | rfl <;> rfl) (Nat.le_of_ble_eq_true rfl) (Nat.le_of_ble_eq_true rfl) dX1_init_47 ?_
  refine y_dup X rfl dX1_init_50 ?_
  refine y_callIN X 36 (by decide) (y_X3_init l G cI cZ cT) rfl hh X.2.2.1.2.1 gX1_init_X3_init_n31 yw_X1_init_icX3 yw_X1_init_imX3 rfl rfl ⟨rfl, rfl⟩ yh_X3_init ⟨Nat.le_of_ble_eq_true rfl, Nat.le_of_ble_eq_true rfl⟩ (Nat.le_of_ble_eq_true rfl) ⟨Nat.le_of_ble_eq_true rfl, Nat.le_of_ble_eq_true rfl⟩ dX1_init_51 ?_
  refine y_astT X 11 36 (by decide) (by decide) rfl rfl (a := 6) rfl (by decide) (by decide) dX1_init_54 ?_
  refine y_iinc (v := 7) (lo' := [(1, .int 7), (0, .ref h0)]) X 0 dX1_init_55 rfl (by decide) (by decide) rfl ?_
  refine y_goto (tgt := 36) X dX1_init_58 (by decide) ?_
  refine y_iload_n X 0 dX1_init_36 rfl rfl ?_
  refine y_bipush (v := 8) X (by decide) dX1_init_37 ?_
  refine y_ge_no (tgt := 61) X (by decide) dX1_init_39 (by decide) ?_
  refine y_aload_n X 1 dX1_init_42 rfl rfl ?_
  refine y_get X (C := RX1) (T := TX1) (N := 4) (ty0 := tyX1) rfl 1 (by decide) yi_X1_init_X1 yl_X1_init_20 rfl (v := .ref (s9.heap.size + 11)) rfl dX1_init_43 ?_
  refine y_iload_n X 0 dX1_init_46 rfl rfl ?_
  refine y_new X (ci := 3) (C := RX3) (T := TX3) (N := 16) (fs := [.int 0, .int 0, .int 0, .int 0, .int 0, .int 0, .int 0, .int 0, .int 0, .int 0, .int 0, .int 0, .int 0, .null, .null, .null]) yi_X1_init_X3 tyX3_ok yw_X1_init_cl18 yw_X1_init_inX3 yw_X1_init_iniX3 rfl (fun j hj => by rcases (show j = 0 ∨ j = 1 ∨ j = 2 ∨ j = 3 ∨ j = 4 ∨ j = 5 ∨ j = 6 ∨ j = 7 ∨ j = 8 ∨ j = 9 ∨ j = 10 ∨ j = 11 ∨ j = 12 ∨ j = 13 ∨ j = 14 ∨ j = 15 by omega) with rfl | rfl | rfl | rfl | rfl | rfl | rfl | rfl | rfl | rfl | rfl | rfl | rfl | rfl | rfl | rfl <;> rfl) (Nat.le_of_ble_eq_true rfl) (Nat.le_of_ble_eq_true rfl) dX1_init_47 ?_
  refine y_dup X rfl dX1_init_50 ?_
  refine y_callIN X 40 (by decide) (y_X3_init l G cI cZ cT) rfl hh X.2.2.1.2.1 gX1_init_X3_init_n31 yw_X1_init_icX3 yw_X1_init_imX3 rfl rfl ⟨rfl, rfl⟩ yh_X3_init ⟨Nat.le_of_ble_eq_true rfl, Nat.le_of_ble_eq_true rfl⟩ (Nat.le_of_ble_eq_true rfl) ⟨Nat.le_of_ble_eq_true rfl, Nat.le_of_ble_eq_true rfl⟩ dX1_init_51 ?_
  refine y_astT X 11 40 (by decide) (by decide) rfl rfl (a := 7) rfl (by decide) (by decide) dX1_init_54 ?_
  refine y_iinc (v := 8) (lo' := [(1, .int 8), (0, .ref h0)]) X 0 dX1_init_55 rfl (by decide) (by decide) rfl ?_
  refine y_goto (tgt := 36) X dX1_init_58 (by decide) ?_
  refine y_iload_n X 0 dX1_init_36 rfl rfl ?_
  refine y_bipush (v := 8) X (by decide) dX1_init_37 ?_
  refine y_ge_yes (tgt := 61) X (by decide) dX1_init_39 (by decide) ?_
  refine y_congT 11 (by decide) rfl (f' := fun t => some (s9.heap.size + (12 + 4 * t))) (fun t ht => by rcases (show t = 0 ∨ t = 1 ∨ t = 2 ∨ t = 3 ∨ t = 4 ∨ t = 5 ∨ t = 6 ∨ t = 7 by omega) with rfl | rfl | rfl | rfl | rfl | rfl | rfl | rfl <;> rfl) ?_
  exact y_end (e1 := (fun _ sz => .inr (1, [.ref (sz + 0), .ref (sz + 11), .int 0, .int 0]))) (ct1 := (fun _ sz i => y_sg cI cT sz i)) (k := 44) (q := 1876) X rfl (fun i hi => by rcases (show i = 0 ∨ i = 1 ∨ i = 2 ∨ i = 3 ∨ i = 4 ∨ i = 5 ∨ i = 6 ∨ i = 7 ∨ i = 8 ∨ i = 9 ∨ i = 10 ∨ i = 11 ∨ i = 12 ∨ i = 13 ∨ i = 14 ∨ i = 15 ∨ i = 16 ∨ i = 17 ∨ i = 18 ∨ i = 19 ∨ i = 20 ∨ i = 21 ∨ i = 22 ∨ i = 23 ∨ i = 24 ∨ i = 25 ∨ i = 26 ∨ i = 27 ∨ i = 28 ∨ i = 29 ∨ i = 30 ∨ i = 31 ∨ i = 32 ∨ i = 33 ∨ i = 34 ∨ i = 35 ∨ i = 36 ∨ i = 37 ∨ i = 38 ∨ i = 39 ∨ i = 40 ∨ i = 41 ∨ i = 42 ∨ i = 43 from by have hi9 : i < 44 := hi; omega) with rfl | rfl | rfl | rfl | rfl | rfl | rfl | rfl | rfl | rfl | rfl | rfl | rfl | rfl | rfl | rfl | rfl | rfl | rfl | rfl | rfl | rfl | rfl | rfl | rfl | rfl | rfl | rfl | rfl | rfl | rfl | rfl | rfl | rfl | rfl | rfl | rfl | rfl | rfl | rfl | rfl | rfl | rfl | rfl <;> rfl) dX1_init_61
def y_x (cI cZ cT : ClassId) (sz i : Nat) : va_E :=
  if i = 0 then .inr (2, [.ref (sz + 1), .int 0]) else if i = 1 then .inl (cI, 200, .inl (fun _ => 0)) else if i = 2 then .inl (cI, 156, .inl (fun _ => 0))
  else if i = 3 then .inr (1, [.ref (sz + 4), .ref (sz + 15), .int 0, .int 0]) else if i < 48 then y_sg cI cT (sz + 4) (i - 4)
  else if i = 48 then .inr (1, [.ref (sz + 49), .ref (sz + 60), .int 0, .int 0]) else if i < 93 then y_sg cI cT (sz + 49) (i - 49)
  else if i = 93 then .inr (4, [.ref (sz + 94), .ref (sz + 95)]) else if i = 94 then .inl (cI, 144, .inl (fun _ => 0)) else .inl (cZ, 144, .inl (fun _ => 0))
theorem yw_X5_init_ob1 : Cond.methodLink RX5 1 Lib.objectInit ∈ wsX5_init := by decide +kernel
theorem yw_X5_init_ob2 : Cond.instanceMethod Lib.objectInit ∈ wsX5_init := by decide +kernel
theorem yw_X5_init_ob3 : Cond.code Lib.objectInit ⟨#[0xb1]⟩ 1 none ∈ wsX5_init := by decide +kernel
theorem yw_X5_init_cl7 : Cond.classLink RX5 7 RX2 ∈ wsX5_init := by decide +kernel
theorem yw_X5_init_inX2 : Cond.instantiable RX2 2 ∈ wsX5_init := by decide +kernel
theorem yw_X5_init_iniX2 : Cond.initialized RX2 ∈ wsX5_init := by decide +kernel
theorem yi_X5_init_X2 : ∀ w ∈ wsX20, w ∈ wsX5_init := by decide +kernel
theorem yh_X2_init : yX2_init.cls ≠ "java/lang/invoke/MethodHandle" ∧ yX2_init.cls ≠ "java/lang/invoke/VarHandle" ∧ (parseMethodDescriptor yX2_init.desc).map (fun d => d.parameters.length) = some 0 := by decide +kernel
theorem yw_X5_init_icX2 : Cond.initialized yX2_init.cls ∈ wsX5_init := by decide +kernel
theorem yw_X5_init_imX2 : Cond.instanceMethod yX2_init ∈ wsX5_init := by decide +kernel
theorem yi_X5_init_X5 : ∀ w ∈ wsX50, w ∈ wsX5_init := by decide +kernel
theorem yl_X5_init_10 : Cond.fieldLink RX5 10 RX5 (TX5 0).2.1 (TX5 0).2.2.1 ∈ wsX5_init := by decide +kernel
theorem yw_X5_init_arI : Cond.arrayClass .int ∈ wsX5_init := by decide +kernel
theorem yl_X5_init_16 : Cond.fieldLink RX5 16 RX5 (TX5 1).2.1 (TX5 1).2.2.1 ∈ wsX5_init := by decide +kernel
theorem yl_X5_init_20 : Cond.fieldLink RX5 20 RX5 (TX5 2).2.1 (TX5 2).2.2.1 ∈ wsX5_init := by decide +kernel
theorem yw_X5_init_cl24 : Cond.classLink RX5 24 RX1 ∈ wsX5_init := by decide +kernel
theorem yw_X5_init_inX1 : Cond.instantiable RX1 4 ∈ wsX5_init := by decide +kernel
theorem yw_X5_init_iniX1 : Cond.initialized RX1 ∈ wsX5_init := by decide +kernel
theorem yi_X5_init_X1 : ∀ w ∈ wsX10, w ∈ wsX5_init := by decide +kernel
theorem yh_X1_init : yX1_init.cls ≠ "java/lang/invoke/MethodHandle" ∧ yX1_init.cls ≠ "java/lang/invoke/VarHandle" ∧ (parseMethodDescriptor yX1_init.desc).map (fun d => d.parameters.length) = some 0 := by decide +kernel
theorem yw_X5_init_icX1 : Cond.initialized yX1_init.cls ∈ wsX5_init := by decide +kernel
theorem yw_X5_init_imX1 : Cond.instanceMethod yX1_init ∈ wsX5_init := by decide +kernel
theorem yw_X5_init_ml26 : Cond.methodLink RX5 26 yX1_init ∈ wsX5_init := by decide +kernel
theorem yl_X5_init_27 : Cond.fieldLink RX5 27 RX5 (TX5 3).2.1 (TX5 3).2.2.1 ∈ wsX5_init := by decide +kernel
theorem yl_X5_init_31 : Cond.fieldLink RX5 31 RX5 (TX5 4).2.1 (TX5 4).2.2.1 ∈ wsX5_init := by decide +kernel
theorem yw_X5_init_cl34 : Cond.classLink RX5 34 RX4 ∈ wsX5_init := by decide +kernel
theorem yw_X5_init_inX4 : Cond.instantiable RX4 2 ∈ wsX5_init := by decide +kernel
theorem yw_X5_init_iniX4 : Cond.initialized RX4 ∈ wsX5_init := by decide +kernel
theorem yi_X5_init_X4 : ∀ w ∈ wsX40, w ∈ wsX5_init := by decide +kernel
theorem yh_X4_init : yX4_init.cls ≠ "java/lang/invoke/MethodHandle" ∧ yX4_init.cls ≠ "java/lang/invoke/VarHandle" ∧ (parseMethodDescriptor yX4_init.desc).map (fun d => d.parameters.length) = some 0 := by decide +kernel
theorem yw_X5_init_icX4 : Cond.initialized yX4_init.cls ∈ wsX5_init := by decide +kernel
theorem yw_X5_init_imX4 : Cond.instanceMethod yX4_init ∈ wsX5_init := by decide +kernel
theorem yl_X5_init_37 : Cond.fieldLink RX5 37 RX5 (TX5 5).2.1 (TX5 5).2.2.1 ∈ wsX5_init := by decide +kernel
set_option maxRecDepth 100000 in
set_option maxHeartbeats 4000000 in
/-- X5_init -/
theorem y_X5_init (l : Launch) (G : va_G) (cI cZ cT : ClassId) : zN l G cI cZ cT yX5_init wsX5_init { frames := 3, cells := 96, slots := 4408, locals := 64 } (.inr (5, [.null, .null, .int 0, .null, .null, .null])) (fun _ sz => .inr (5, [.ref (sz + 0), .ref (sz + 2), .int 0, .ref (sz + 3), .ref (sz + 48), .ref (sz + 93)])) 96 4408 (fun _ sz i => y_x cI cZ cT sz i) := by
  refine y_of (cc := cX5_init) (maxL := 1) (by decide) rfl rfl (by decide) ?_
  intro p9 e9 s9 m9 a9 b9 h9 c9 h0 X hin hh
  refine y_aload_n X 0 dX5_init_0 rfl rfl ?_
  refine y_obj X yw_X5_init_ob1 yw_X5_init_ob2 yw_X5_init_ob3 (Nat.le_of_ble_eq_true rfl) (Nat.le_of_ble_eq_true rfl) dX5_init_1 ?_
  refine y_aload_n X 0 dX5_init_4 rfl rfl ?_
  refine y_new X (ci := 2) (C := RX2) (T := TX2) (N := 2) (fs := [.null, .int 0]) yi_X5_init_X2 tyX2_ok yw_X5_init_cl7 yw_X5_init_inX2 yw_X5_init_iniX2 rfl (fun j hj => by rcases (show j = 0 ∨ j = 1 by omega) with rfl | rfl <;> rfl) (Nat.le_of_ble_eq_true rfl) (Nat.le_of_ble_eq_true rfl) dX5_init_5 ?_
  refine y_dup X rfl dX5_init_8 ?_
  refine y_callIN X 0 (by decide) (y_X2_init l G cI cZ cT) rfl hh X.2.2.1.1 gX5_init_X2_init_n9 yw_X5_init_icX2 yw_X5_init_imX2 rfl rfl ⟨rfl, rfl⟩ yh_X2_init ⟨Nat.le_of_ble_eq_true rfl, Nat.le_of_ble_eq_true rfl⟩ (Nat.le_of_ble_eq_true rfl) ⟨Nat.le_of_ble_eq_true rfl, Nat.le_of_ble_eq_true rfl⟩ dX5_init_9 ?_
  refine y_putF X hin (C := RX5) (T := TX5) (N := 6) rfl 0 (by decide) yi_X5_init_X5 yl_X5_init_10 rfl tyX5_ok nmX5 rfl rfl (ty := .object "SapperWar$Tape") (by decide +kernel) rfl rfl (Nat.le_of_ble_eq_true rfl) dX5_init_12 ?_
  refine y_e (e1 := .inr (5, [.ref (s9.heap.size + 0), .null, .int 0, .null, .null, .null])) rfl ?_
  refine y_aload_n X 0 dX5_init_15 rfl rfl ?_
  refine y_sipush (v := 156) X (by decide) dX5_init_16 ?_
  refine y_newI X 156 yw_X5_init_arI (by decide) rfl (Nat.le_of_ble_eq_true rfl) (Nat.le_of_ble_eq_true rfl) (Nat.le_of_ble_eq_true rfl) dX5_init_19 ?_
  refine y_putF X hin (C := RX5) (T := TX5) (N := 6) rfl 1 (by decide) yi_X5_init_X5 yl_X5_init_16 rfl tyX5_ok nmX5 rfl rfl (ty := .array .int) (by decide +kernel) rfl rfl (Nat.le_of_ble_eq_true rfl) dX5_init_21 ?_
  refine y_e (e1 := .inr (5, [.ref (s9.heap.size + 0), .ref (s9.heap.size + 2), .int 0, .null, .null, .null])) rfl ?_
  refine y_aload_n X 0 dX5_init_24 rfl rfl ?_
  refine y_iconst (v := 0) X (by decide) dX5_init_25 ?_
  refine y_put X (C := RX5) (T := TX5) (N := 6) rfl 2 (by decide) yi_X5_init_X5 yl_X5_init_20 rfl tyX5_ok nmX5 rfl (ty := .int) (by decide +kernel) rfl rfl (Nat.le_of_ble_eq_true rfl) dX5_init_26 ?_
  refine y_e (e1 := .inr (5, [.ref (s9.heap.size + 0), .ref (s9.heap.size + 2), .int 0, .null, .null, .null])) rfl ?_
  refine y_aload_n X 0 dX5_init_29 rfl rfl ?_
  refine y_new X (ci := 1) (C := RX1) (T := TX1) (N := 4) (fs := [.null, .null, .int 0, .int 0]) yi_X5_init_X1 tyX1_ok yw_X5_init_cl24 yw_X5_init_inX1 yw_X5_init_iniX1 rfl (fun j hj => by rcases (show j = 0 ∨ j = 1 ∨ j = 2 ∨ j = 3 by omega) with rfl | rfl | rfl | rfl <;> rfl) (Nat.le_of_ble_eq_true rfl) (Nat.le_of_ble_eq_true rfl) dX5_init_30 ?_
  refine y_dup X rfl dX5_init_33 ?_
  refine y_callI X 3 (by decide) (y_X1_init l G cI cZ cT) rfl hh yw_X5_init_ml26 gX5_init_X1_init yw_X5_init_icX1 yw_X5_init_imX1 rfl rfl ⟨rfl, rfl⟩ yh_X1_init ⟨Nat.le_of_ble_eq_true rfl, Nat.le_of_ble_eq_true rfl⟩ (Nat.le_of_ble_eq_true rfl) ⟨Nat.le_of_ble_eq_true rfl, Nat.le_of_ble_eq_true rfl⟩ dX5_init_34 ?_
  refine y_putF X hin (C := RX5) (T := TX5) (N := 6) rfl 3 (by decide) yi_X5_init_X5 yl_X5_init_27 rfl tyX5_ok nmX5 rfl rfl (ty := .object "SapperWar$Siege") (by decide +kernel) rfl rfl (Nat.le_of_ble_eq_true rfl) dX5_init_37 ?_
  refine y_e (e1 := .inr (5, [.ref (s9.heap.size + 0), .ref (s9.heap.size + 2), .int 0, .ref (s9.heap.size + 3), .null, .null])) rfl ?_
  refine y_aload_n X 0 dX5_init_40 rfl rfl ?_
  refine y_new X (ci := 1) (C := RX1) (T := TX1) (N := 4) (fs := [.null, .null, .int 0, .int 0]) yi_X5_init_X1 tyX1_ok yw_X5_init_cl24 yw_X5_init_inX1 yw_X5_init_iniX1 rfl (fun j hj => by rcases (show j = 0 ∨ j = 1 ∨ j = 2 ∨ j = 3 by omega) with rfl | rfl | rfl | rfl <;> rfl) (Nat.le_of_ble_eq_true rfl) (Nat.le_of_ble_eq_true rfl) dX5_init_41 ?_
  refine y_dup X rfl dX5_init_44 ?_
  refine y_callI X 48 (by decide) (y_X1_init l G cI cZ cT) rfl hh yw_X5_init_ml26 gX5_init_X1_init yw_X5_init_icX1 yw_X5_init_imX1 rfl rfl ⟨rfl, rfl⟩ yh_X1_init ⟨Nat.le_of_ble_eq_true rfl, Nat.le_of_ble_eq_true rfl⟩ (Nat.le_of_ble_eq_true rfl) ⟨Nat.le_of_ble_eq_true rfl, Nat.le_of_ble_eq_true rfl⟩ dX5_init_45 ?_
  refine y_putF X hin (C := RX5) (T := TX5) (N := 6) rfl 4 (by decide) yi_X5_init_X5 yl_X5_init_31 rfl tyX5_ok nmX5 rfl rfl (ty := .object "SapperWar$Siege") (by decide +kernel) rfl rfl (Nat.le_of_ble_eq_true rfl) dX5_init_48 ?_
  refine y_e (e1 := .inr (5, [.ref (s9.heap.size + 0), .ref (s9.heap.size + 2), .int 0, .ref (s9.heap.size + 3), .ref (s9.heap.size + 48), .null])) rfl ?_
  refine y_aload_n X 0 dX5_init_51 rfl rfl ?_
  refine y_new X (ci := 4) (C := RX4) (T := TX4) (N := 2) (fs := [.null, .null]) yi_X5_init_X4 tyX4_ok yw_X5_init_cl34 yw_X5_init_inX4 yw_X5_init_iniX4 rfl (fun j hj => by rcases (show j = 0 ∨ j = 1 by omega) with rfl | rfl <;> rfl) (Nat.le_of_ble_eq_true rfl) (Nat.le_of_ble_eq_true rfl) dX5_init_52 ?_
  refine y_dup X rfl dX5_init_55 ?_
  refine y_callIN X 93 (by decide) (y_X4_init l G cI cZ cT) rfl hh X.2.2.1.2.2.1 gX5_init_X4_init_n36 yw_X5_init_icX4 yw_X5_init_imX4 rfl rfl ⟨rfl, rfl⟩ yh_X4_init ⟨Nat.le_of_ble_eq_true rfl, Nat.le_of_ble_eq_true rfl⟩ (Nat.le_of_ble_eq_true rfl) ⟨Nat.le_of_ble_eq_true rfl, Nat.le_of_ble_eq_true rfl⟩ dX5_init_56 ?_
  refine y_putF X hin (C := RX5) (T := TX5) (N := 6) rfl 5 (by decide) yi_X5_init_X5 yl_X5_init_37 rfl tyX5_ok nmX5 rfl rfl (ty := .object "SapperWar$Ways") (by decide +kernel) rfl rfl (Nat.le_of_ble_eq_true rfl) dX5_init_59 ?_
  refine y_e (e1 := .inr (5, [.ref (s9.heap.size + 0), .ref (s9.heap.size + 2), .int 0, .ref (s9.heap.size + 3), .ref (s9.heap.size + 48), .ref (s9.heap.size + 93)])) rfl ?_
  exact y_end (e1 := (fun _ sz => .inr (5, [.ref (sz + 0), .ref (sz + 2), .int 0, .ref (sz + 3), .ref (sz + 48), .ref (sz + 93)]))) (ct1 := (fun _ sz i => y_x cI cZ cT sz i)) (k := 96) (q := 4408) X rfl (fun i hi => by rcases (show i = 0 ∨ i = 1 ∨ i = 2 ∨ i = 3 ∨ i = 4 ∨ i = 5 ∨ i = 6 ∨ i = 7 ∨ i = 8 ∨ i = 9 ∨ i = 10 ∨ i = 11 ∨ i = 12 ∨ i = 13 ∨ i = 14 ∨ i = 15 ∨ i = 16 ∨ i = 17 ∨ i = 18 ∨ i = 19 ∨ i = 20 ∨ i = 21 ∨ i = 22 ∨ i = 23 ∨ i = 24 ∨ i = 25 ∨ i = 26 ∨ i = 27 ∨ i = 28 ∨ i = 29 ∨ i = 30 ∨ i = 31 ∨ i = 32 ∨ i = 33 ∨ i = 34 ∨ i = 35 ∨ i = 36 ∨ i = 37 ∨ i = 38 ∨ i = 39 ∨ i = 40 ∨ i = 41 ∨ i = 42 ∨ i = 43 ∨ i = 44 ∨ i = 45 ∨ i = 46 ∨ i = 47 ∨ i = 48 ∨ i = 49 ∨ i = 50 ∨ i = 51 ∨ i = 52 ∨ i = 53 ∨ i = 54 ∨ i = 55 ∨ i = 56 ∨ i = 57 ∨ i = 58 ∨ i = 59 ∨ i = 60 ∨ i = 61 ∨ i = 62 ∨ i = 63 ∨ i = 64 ∨ i = 65 ∨ i = 66 ∨ i = 67 ∨ i = 68 ∨ i = 69 ∨ i = 70 ∨ i = 71 ∨ i = 72 ∨ i = 73 ∨ i = 74 ∨ i = 75 ∨ i = 76 ∨ i = 77 ∨ i = 78 ∨ i = 79 ∨ i = 80 ∨ i = 81 ∨ i = 82 ∨ i = 83 ∨ i = 84 ∨ i = 85 ∨ i = 86 ∨ i = 87 ∨ i = 88 ∨ i = 89 ∨ i = 90 ∨ i = 91 ∨ i = 92 ∨ i = 93 ∨ i = 94 ∨ i = 95 from by have hi9 : i < 96 := hi; omega) with rfl | rfl | rfl | rfl | rfl | rfl | rfl | rfl | rfl | rfl | rfl | rfl | rfl | rfl | rfl | rfl | rfl | rfl | rfl | rfl | rfl | rfl | rfl | rfl | rfl | rfl | rfl | rfl | rfl | rfl | rfl | rfl | rfl | rfl | rfl | rfl | rfl | rfl | rfl | rfl | rfl | rfl | rfl | rfl | rfl | rfl | rfl | rfl | rfl | rfl | rfl | rfl | rfl | rfl | rfl | rfl | rfl | rfl | rfl | rfl | rfl | rfl | rfl | rfl | rfl | rfl | rfl | rfl | rfl | rfl | rfl | rfl | rfl | rfl | rfl | rfl | rfl | rfl | rfl | rfl | rfl | rfl | rfl | rfl | rfl | rfl | rfl | rfl | rfl | rfl | rfl | rfl | rfl | rfl | rfl | rfl <;> rfl) dX5_init_62
end ZM8
