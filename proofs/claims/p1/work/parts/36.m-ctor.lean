section ZMC
variable {p : Program} {l : Launch} {e : Env} {R : Room} {s : State} {m : MethodId} {args : Array Value} {below : List Frame} {meth : Method} {c : Code} {Q : State → Prop}
variable {G : va_G} {nL k9 q9 : Nat} {cc : ByteArray} {own : String} {Ts : List Cond} {rt : Option FieldType} {tys : List (ClassId × FieldType)} {K : Nat × Nat × (Nat → Int32)} {A : Nat → Prop} {ws ws' : va_W} {pc : Nat} {lo lo' : List (Nat × Value)} {st rest : List Value} {cI cZ cT cB : ClassId} {o : Nat}
theorem j_callIN (X : j_X p s m args meth c cc nL own Ts rt G tys) (hA : ∀ q, s.heap.size ≤ q → A q) (hZ : j_Z K A s s.heap) {β : Type} {y : MethodName} {bytes : ByteArray} {maxL idx mk ms : Nat} {w9 w9' : List Cond} {rm : Room} {post : β → Prop} {wc wr : va_W} {wf : β → va_W} (isC isR : List Nat) (hC : isC.map (fun i => ws[i]?) = wc.map some) (hR9 : isR.map (fun i => ws[i]?) = wr.map some) (hnC : va_nd isC = true) (hnR : va_nd isR = true) (hdis : ∀ i ∈ isR, i ∉ isC) (As : List Value) {b : Nat} (hM : jU l G K tys y w9 rm wc (.ref b :: As) mk ms post wf) (n : Nat) (hn : As.length = n) {host : String} (hlink : va_Nw (.methodLinkNest own idx y host) s) (hT : GoodIn Ts w9) (hini : Cond.initialized y.cls ∈ Ts) (hins : Cond.instanceMethod y ∈ Ts) (hyn : y.name = "<init>") (hw : w9 = Cond.code y bytes maxL none :: w9') (hrm : rm.cells = mk ∧ rm.slots = ms) (hy : y.cls ≠ "java/lang/invoke/MethodHandle" ∧ y.cls ≠ "java/lang/invoke/VarHandle" ∧ (parseMethodDescriptor y.desc).map (fun d => d.parameters.length) = some n) (hR : rm.frames + 1 ≤ R.frames ∧ 8 + (maxL + 11) + rm.locals ≤ R.locals) {stk : List Value} (hst : stk = As.reverse ++ [.ref b]) (hW : (rest.map fun v => v.category).sum ≤ 8) (hf : k9 + mk ≤ R.cells ∧ q9 + ms ≤ R.slots) (hd : decode cc pc = .ok (.invokespecial idx, 3)) (kk : ∀ (u : β), post u → j_V p l e R s m args below meth c Q G nL A (k9 + mk) (q9 + ms) (wr ++ wf u) (pc + 3) lo rest) : j_V p l e R s m args below meth c Q G nL A k9 q9 ws pc lo (stk ++ rest) := fun H locs ls hP hD hS h => by
  subst hst
  have hFA : ∀ q, va_A wc H.size q → A q := va_free hD hS hA isC hC
  have hDc : va_D (va_A wc H.size) wc := (hD.sub isC hnC hC).self
  have hPc : va_P G vwCl wc H := hP.sub isC (by
    have e : isC.filterMap (fun i => ws[i]?) = (isC.map (fun i => ws[i]?)).filterMap id := by rw [List.filterMap_map]; rfl
    rw [e, hC, List.filterMap_map]
    exact List.filterMap_some)
  have start : ∀ U : State, U.heap = H → s.WarmedH U.vm → va_Pc (.ref b :: As) (j_In G K tys wc H.size) ((.ref b :: As) : List Value).toArray U := fun U hU hW9 => ⟨rfl, by rw [hU], by rw [hU]; exact hPc, va_K.moved hW9.alike X.2.1, by rw [hU]; exact hZ.at hS hFA hW9⟩
  skip
  refine va_callv (va_runIN (As := As) (rest := rest) X.1 (hM H.size hDc) ⟨va_cnB n X.1.2.2.2.2 hT hw hrm.1 hrm.2 hlink (X.1.2.2.2.2 _ hini) hy hR, hyn, X.1.2.2.2.2 _ hins⟩ ⟨j_blind G K tys wc H.size _, start⟩ rfl hn h.1 (by simp [F0]) (lv_room hW) hd hf) hS (fun q _ g => hFA q g) hFA (fun u t H1 locs1 ht hvm hp9 hB hz1 hk1 hS1 => ?_)
  obtain ⟨hB1, hB2⟩ := hB
  rw [ht] at hB1
  obtain ⟨j1, j2⟩ := va_join hP hD isC isR hC hR9 hnR hdis hk1 hFA hB1 hB2
  exact kk u hp9 H1 locs1 ls j1 j2 hS1 h
/-- the cells' rows as the constructor writes them -/
def zf : Nat → Nat → Int32
  | 0 => fun _ => 0
  | k + 1 => upd (upd (zf k) (8 * k + 0) 3) (8 * k + 1) (-1)
theorem zf_at : ∀ k j, zf k j = if j < 8 * k then fz j else 0
  | 0, j => by rw [if_neg (by omega)]; rfl
  | k + 1, j => by
    show upd (upd (zf k) (8 * k + 0) 3) (8 * k + 1) (-1) j = _
    unfold upd
    by_cases h1 : j = 8 * k + 1
    · rw [if_pos h1, if_pos (by omega), h1, fz_1]
    rw [if_neg h1]
    by_cases h0 : j = 8 * k + 0
    · rw [if_pos h0, if_pos (by omega), h0]
      exact (fz_0 k).symm
    rw [if_neg h0, zf_at k j]
    by_cases h : j < 8 * k
    · rw [if_pos h, if_pos (by omega)]
    rw [if_neg h]
    by_cases h9 : j < 8 * (k + 1)
    · rw [if_pos h9]
      obtain ⟨c, hc, e⟩ : ∃ c, (2 ≤ c ∧ c < 8) ∧ j = 8 * k + c := ⟨j - 8 * k, by omega, by omega⟩
      rw [e]; exact (fz_n k c hc.1 hc.2).symm
    · rw [if_neg h9]
def m_Z0 : mS := fun k i => bif Nat.beq k 10 then zf 144 i else 0
theorem mfr_Z0 : mfr m_Z0 := ⟨⟨rfl, rfl, rfl⟩, fun j hj => (zf_at 144 j).trans (if_pos (by omega)), rfl, rfl⟩
/-- a new State's cells -/
def m_s0 (cI : ClassId) (a x y z : Nat) : va_W := [(a, .inr (6, [.int 0, .int 0, .ref x, .ref y, .ref z])), (x, .inl (cI, 1152, .inl (fun _ => 0))), (y, .inl (cI, 80, .inl (fun _ => 0))), (z, .inl (cI, 288, .inl (fun _ => 0)))]
theorem mc_X6_init_in : ∀ w ∈ u_ws RX6 TX6 5, w ∈ wsX6_init := by decide +kernel
theorem mc_X6_init_arrI : Cond.arrayClass .int ∈ wsX6_init := by decide +kernel
theorem mc_X6_init_ob1 : Cond.methodLink RX6 3 Lib.objectInit ∈ wsX6_init := by decide +kernel
theorem mc_X6_init_ob2 : Cond.instanceMethod Lib.objectInit ∈ wsX6_init := by decide +kernel
theorem mc_X6_init_ob3 : Cond.code Lib.objectInit ⟨#[0xb1]⟩ 1 none ∈ wsX6_init := by decide +kernel
theorem mc_X6_init_f9 : Cond.fieldLink RX6 9 RX6 (TX6 2).2.1 (TX6 2).2.2.1 ∈ wsX6_init := by decide +kernel
theorem mc_X6_init_f15 : Cond.fieldLink RX6 15 RX6 (TX6 3).2.1 (TX6 3).2.2.1 ∈ wsX6_init := by decide +kernel
theorem mc_X6_init_f18 : Cond.fieldLink RX6 18 RX6 (TX6 4).2.1 (TX6 4).2.2.1 ∈ wsX6_init := by decide +kernel
set_option maxRecDepth 100000 in
set_option maxHeartbeats 4000000 in
theorem m_S (a : Nat) : jU l G K (j_ty cI cZ cT cB) yX6_init wsX6_init { frames := 1, cells := 3, slots := 1520, locals := 16 } [(a, .inr (6, [.int 0, .int 0, .null, .null, .null]))] [.ref a] 3 1520 (fun _ : Nat × Nat × Nat => True) (fun u => m_s0 cI a u.1 u.2.1 u.2.2) := by
  refine j_ofV (cc := cX6_init) (maxL := 1) (by decide) rfl (Nat.le_of_ble_eq_true rfl) ?_
  intro p e s m args below meth c X hnm hZ
  have hA : ∀ q, s.heap.size ≤ q → (va_A [(a, .inr (6, [.int 0, .int 0, .null, .null, .null]))] s.heap.size) q := fun _ h => Or.inr h
  refine j_aload_n X 0 dX6_init_0 rfl rfl ?_
  refine j_obj X mc_X6_init_ob1 mc_X6_init_ob2 mc_X6_init_ob3 (Nat.le_of_ble_eq_true rfl) (Nat.le_of_ble_eq_true rfl) dX6_init_1 ?_
  refine j_aload_n X 0 dX6_init_4 rfl rfl ?_
  refine j_sipush (v := 1152) X (by decide) dX6_init_5 ?_
  refine j_newI X hA 0 rfl mc_X6_init_arrI 1152 (by decide) (by decide) (by decide) (Nat.le_of_ble_eq_true rfl) (Nat.le_of_ble_eq_true rfl) dX6_init_8 (fun x1 => ?_)
  refine j_weq (ws' := [(a, .inr (6, [.int 0, .int 0, .null, .null, .null])), (x1, .inl (cI, 1152, .inl (fun _ => 0)))]) rfl ?_
  refine j_putF X hnm 0 (C := RX6) (T := TX6) (N := 5) rfl rfl 2 (by decide) mc_X6_init_in RX6 mc_X6_init_f9 (fun x q => q) tyX6_ok nmX6 rfl rfl (ty := .array .int) (v := .ref x1) (by decide +kernel) rfl rfl (Nat.le_of_ble_eq_true rfl) dX6_init_10 ?_
  refine j_weq (ws' := [(a, .inr (6, [.int 0, .int 0, .ref x1, .null, .null])), (x1, .inl (cI, 1152, .inl (fun _ => 0)))]) rfl ?_
  refine j_aload_n X 0 dX6_init_13 rfl rfl ?_
  refine j_bipush (v := 80) X (by decide) dX6_init_14 ?_
  refine j_newI X hA 0 rfl mc_X6_init_arrI 80 (by decide) (by decide) (by decide) (Nat.le_of_ble_eq_true rfl) (Nat.le_of_ble_eq_true rfl) dX6_init_16 (fun x2 => ?_)
  refine j_weq (ws' := [(a, .inr (6, [.int 0, .int 0, .ref x1, .null, .null])), (x1, .inl (cI, 1152, .inl (fun _ => 0))), (x2, .inl (cI, 80, .inl (fun _ => 0)))]) rfl ?_
  refine j_putF X hnm 0 (C := RX6) (T := TX6) (N := 5) rfl rfl 3 (by decide) mc_X6_init_in RX6 mc_X6_init_f15 (fun x q => q) tyX6_ok nmX6 rfl rfl (ty := .array .int) (v := .ref x2) (by decide +kernel) rfl rfl (Nat.le_of_ble_eq_true rfl) dX6_init_18 ?_
  refine j_weq (ws' := [(a, .inr (6, [.int 0, .int 0, .ref x1, .ref x2, .null])), (x1, .inl (cI, 1152, .inl (fun _ => 0))), (x2, .inl (cI, 80, .inl (fun _ => 0)))]) rfl ?_
  refine j_aload_n X 0 dX6_init_21 rfl rfl ?_
  refine j_sipush (v := 288) X (by decide) dX6_init_22 ?_
  refine j_newI X hA 0 rfl mc_X6_init_arrI 288 (by decide) (by decide) (by decide) (Nat.le_of_ble_eq_true rfl) (Nat.le_of_ble_eq_true rfl) dX6_init_25 (fun x3 => ?_)
  refine j_weq (ws' := [(a, .inr (6, [.int 0, .int 0, .ref x1, .ref x2, .null])), (x1, .inl (cI, 1152, .inl (fun _ => 0))), (x2, .inl (cI, 80, .inl (fun _ => 0))), (x3, .inl (cI, 288, .inl (fun _ => 0)))]) rfl ?_
  refine j_putF X hnm 0 (C := RX6) (T := TX6) (N := 5) rfl rfl 4 (by decide) mc_X6_init_in RX6 mc_X6_init_f18 (fun x q => q) tyX6_ok nmX6 rfl rfl (ty := .array .int) (v := .ref x3) (by decide +kernel) rfl rfl (Nat.le_of_ble_eq_true rfl) dX6_init_27 ?_
  refine j_weq (ws' := [(a, .inr (6, [.int 0, .int 0, .ref x1, .ref x2, .ref x3])), (x1, .inl (cI, 1152, .inl (fun _ => 0))), (x2, .inl (cI, 80, .inl (fun _ => 0))), (x3, .inl (cI, 288, .inl (fun _ => 0)))]) rfl ?_
  exact j_vret X (x1, x2, x3) rfl dX6_init_30 trivial
theorem mc_X7_init_in : ∀ w ∈ u_ws RX7 TX7 14, w ∈ wsX7_init := by decide +kernel
theorem mc_X7_init_arrI : Cond.arrayClass .int ∈ wsX7_init := by decide +kernel
theorem mc_X7_init_arrZ : Cond.arrayClass .boolean ∈ wsX7_init := by decide +kernel
theorem mc_X7_init_ob1 : Cond.methodLink RX7 1 Lib.objectInit ∈ wsX7_init := by decide +kernel
theorem mc_X7_init_ob2 : Cond.instanceMethod Lib.objectInit ∈ wsX7_init := by decide +kernel
theorem mc_X7_init_ob3 : Cond.code Lib.objectInit ⟨#[0xb1]⟩ 1 none ∈ wsX7_init := by decide +kernel
theorem mc_X7_init_f9 : Cond.fieldLink RX7 9 RX7 (TX7 1).2.1 (TX7 1).2.2.1 ∈ wsX7_init := by decide +kernel
theorem mc_X7_init_f13 : Cond.fieldLink RX7 13 RX7 (TX7 3).2.1 (TX7 3).2.2.1 ∈ wsX7_init := by decide +kernel
theorem mc_X7_init_f16 : Cond.fieldLink RX7 16 RX7 (TX7 6).2.1 (TX7 6).2.2.1 ∈ wsX7_init := by decide +kernel
theorem mc_X7_init_f19 : Cond.fieldLink RX7 19 RX7 (TX7 7).2.1 (TX7 7).2.2.1 ∈ wsX7_init := by decide +kernel
theorem mc_X7_init_f22 : Cond.fieldLink RX7 22 RX7 (TX7 8).2.1 (TX7 8).2.2.1 ∈ wsX7_init := by decide +kernel
theorem mc_X7_init_f25 : Cond.fieldLink RX7 25 RX7 (TX7 9).2.1 (TX7 9).2.2.1 ∈ wsX7_init := by decide +kernel
theorem mc_X7_init_f28 : Cond.fieldLink RX7 28 RX7 (TX7 10).2.1 (TX7 10).2.2.1 ∈ wsX7_init := by decide +kernel
theorem mc_X7_init_f32 : Cond.fieldLink RX7 32 RX7 (TX7 11).2.1 (TX7 11).2.2.1 ∈ wsX7_init := by decide +kernel
theorem mc_X7_init_cl : Cond.classLink RX7 35 RX6 ∈ wsX7_init := by decide +kernel
theorem mc_X7_init_inst : Cond.instantiable RX6 5 ∈ wsX7_init := by decide +kernel
theorem mc_X7_init_ini : Cond.initialized RX6 ∈ wsX7_init := by decide +kernel
theorem mc_X7_init_in6 : ∀ w ∈ u_ws RX6 TX6 5, w ∈ wsX7_init := by decide +kernel
theorem mc_X7_init_ins6 : Cond.instanceMethod yX6_init ∈ wsX7_init := by decide +kernel
theorem mc_hy : yX6_init.cls ≠ "java/lang/invoke/MethodHandle" ∧ yX6_init.cls ≠ "java/lang/invoke/VarHandle" ∧ (parseMethodDescriptor yX6_init.desc).map (fun d => d.parameters.length) = some 0 := by decide +kernel
theorem mc_nest : Cond.methodLinkNest RX7 37 yX6_init RX7 ∈ x_nest := List.mem_cons_self
theorem mc_X7_init_f38 : Cond.fieldLink RX7 38 RX7 (TX7 12).2.1 (TX7 12).2.2.1 ∈ wsX7_init := by decide +kernel
theorem mc_X7_init_f42 : Cond.fieldLink RX7 42 RX7 (TX7 13).2.1 (TX7 13).2.2.1 ∈ wsX7_init := by decide +kernel
theorem mc_X7_init_f_s : Cond.fieldLink RX7 38 RX7 (TX7 12).2.1 (TX7 12).2.2.1 ∈ wsX7_init := by decide +kernel
set_option maxRecDepth 100000 in
set_option maxHeartbeats 8000000 in
theorem m_init (a : Nat) : jU l G K (j_ty cI cZ cT cB) yX7_init wsX7_init { frames := 2, cells := 16, slots := 3862, locals := 64 } [(a, .inr (7, [.int 0, .null, .int 0, .null, .int 0, .int 0, .null, .null, .null, .null, .null, .null, .null, .null]))] [.ref a] 16 3862 (fun _ : Nat → Nat => True) (fun ad => m_w cI cZ ad m_Z0) := by
  refine j_ofV (cc := cX7_init) (maxL := 2) (by decide) rfl (Nat.le_of_ble_eq_true rfl) ?_
  intro p e s m args below meth c X hnm hZ
  have hA : ∀ q, s.heap.size ≤ q → (va_A [(a, .inr (7, [.int 0, .null, .int 0, .null, .int 0, .int 0, .null, .null, .null, .null, .null, .null, .null, .null]))] s.heap.size) q := fun _ h => Or.inr h
  refine j_aload_n X 0 dX7_init_0 rfl rfl ?_
  refine j_obj X mc_X7_init_ob1 mc_X7_init_ob2 mc_X7_init_ob3 (Nat.le_of_ble_eq_true rfl) (Nat.le_of_ble_eq_true rfl) dX7_init_1 ?_
  refine j_aload_n X 0 dX7_init_4 rfl rfl ?_
  refine j_sipush (v := 200) X (by decide) dX7_init_5 ?_
  refine j_newI X hA 0 rfl mc_X7_init_arrI 200 (by decide) (by decide) (by decide) (Nat.le_of_ble_eq_true rfl) (Nat.le_of_ble_eq_true rfl) dX7_init_8 (fun x1 => ?_)
  refine j_weq (ws' := [(a, .inr (7, [.int 0, .null, .int 0, .null, .int 0, .int 0, .null, .null, .null, .null, .null, .null, .null, .null])), (x1, .inl (cI, 200, .inl (fun _ => 0)))]) rfl ?_
  refine j_putF X hnm 0 (C := RX7) (T := TX7) (N := 14) rfl rfl 1 (by decide) mc_X7_init_in RX7 mc_X7_init_f9 (fun x q => q) tyX7_ok nmX7 rfl rfl (ty := .array .int) (v := .ref x1) (by decide +kernel) rfl rfl (Nat.le_of_ble_eq_true rfl) dX7_init_10 ?_
  refine j_weq (ws' := [(a, .inr (7, [.int 0, .ref x1, .int 0, .null, .int 0, .int 0, .null, .null, .null, .null, .null, .null, .null, .null])), (x1, .inl (cI, 200, .inl (fun _ => 0)))]) rfl ?_
  refine j_aload_n X 0 dX7_init_13 rfl rfl ?_
  refine j_sipush (v := 156) X (by decide) dX7_init_14 ?_
  refine j_newI X hA 0 rfl mc_X7_init_arrI 156 (by decide) (by decide) (by decide) (Nat.le_of_ble_eq_true rfl) (Nat.le_of_ble_eq_true rfl) dX7_init_17 (fun x2 => ?_)
  refine j_weq (ws' := [(a, .inr (7, [.int 0, .ref x1, .int 0, .null, .int 0, .int 0, .null, .null, .null, .null, .null, .null, .null, .null])), (x1, .inl (cI, 200, .inl (fun _ => 0))), (x2, .inl (cI, 156, .inl (fun _ => 0)))]) rfl ?_
  refine j_putF X hnm 0 (C := RX7) (T := TX7) (N := 14) rfl rfl 3 (by decide) mc_X7_init_in RX7 mc_X7_init_f13 (fun x q => q) tyX7_ok nmX7 rfl rfl (ty := .array .int) (v := .ref x2) (by decide +kernel) rfl rfl (Nat.le_of_ble_eq_true rfl) dX7_init_19 ?_
  refine j_weq (ws' := [(a, .inr (7, [.int 0, .ref x1, .int 0, .ref x2, .int 0, .int 0, .null, .null, .null, .null, .null, .null, .null, .null])), (x1, .inl (cI, 200, .inl (fun _ => 0))), (x2, .inl (cI, 156, .inl (fun _ => 0)))]) rfl ?_
  refine j_aload_n X 0 dX7_init_22 rfl rfl ?_
  refine j_sipush (v := 144) X (by decide) dX7_init_23 ?_
  refine j_newI X hA 0 rfl mc_X7_init_arrI 144 (by decide) (by decide) (by decide) (Nat.le_of_ble_eq_true rfl) (Nat.le_of_ble_eq_true rfl) dX7_init_26 (fun x3 => ?_)
  refine j_weq (ws' := [(a, .inr (7, [.int 0, .ref x1, .int 0, .ref x2, .int 0, .int 0, .null, .null, .null, .null, .null, .null, .null, .null])), (x1, .inl (cI, 200, .inl (fun _ => 0))), (x2, .inl (cI, 156, .inl (fun _ => 0))), (x3, .inl (cI, 144, .inl (fun _ => 0)))]) rfl ?_
  refine j_putF X hnm 0 (C := RX7) (T := TX7) (N := 14) rfl rfl 6 (by decide) mc_X7_init_in RX7 mc_X7_init_f16 (fun x q => q) tyX7_ok nmX7 rfl rfl (ty := .array .int) (v := .ref x3) (by decide +kernel) rfl rfl (Nat.le_of_ble_eq_true rfl) dX7_init_28 ?_
  refine j_weq (ws' := [(a, .inr (7, [.int 0, .ref x1, .int 0, .ref x2, .int 0, .int 0, .ref x3, .null, .null, .null, .null, .null, .null, .null])), (x1, .inl (cI, 200, .inl (fun _ => 0))), (x2, .inl (cI, 156, .inl (fun _ => 0))), (x3, .inl (cI, 144, .inl (fun _ => 0)))]) rfl ?_
  refine j_aload_n X 0 dX7_init_31 rfl rfl ?_
  refine j_sipush (v := 144) X (by decide) dX7_init_32 ?_
  refine j_newI X hA 0 rfl mc_X7_init_arrI 144 (by decide) (by decide) (by decide) (Nat.le_of_ble_eq_true rfl) (Nat.le_of_ble_eq_true rfl) dX7_init_35 (fun x4 => ?_)
  refine j_weq (ws' := [(a, .inr (7, [.int 0, .ref x1, .int 0, .ref x2, .int 0, .int 0, .ref x3, .null, .null, .null, .null, .null, .null, .null])), (x1, .inl (cI, 200, .inl (fun _ => 0))), (x2, .inl (cI, 156, .inl (fun _ => 0))), (x3, .inl (cI, 144, .inl (fun _ => 0))), (x4, .inl (cI, 144, .inl (fun _ => 0)))]) rfl ?_
  refine j_putF X hnm 0 (C := RX7) (T := TX7) (N := 14) rfl rfl 7 (by decide) mc_X7_init_in RX7 mc_X7_init_f19 (fun x q => q) tyX7_ok nmX7 rfl rfl (ty := .array .int) (v := .ref x4) (by decide +kernel) rfl rfl (Nat.le_of_ble_eq_true rfl) dX7_init_37 ?_
  refine j_weq (ws' := [(a, .inr (7, [.int 0, .ref x1, .int 0, .ref x2, .int 0, .int 0, .ref x3, .ref x4, .null, .null, .null, .null, .null, .null])), (x1, .inl (cI, 200, .inl (fun _ => 0))), (x2, .inl (cI, 156, .inl (fun _ => 0))), (x3, .inl (cI, 144, .inl (fun _ => 0))), (x4, .inl (cI, 144, .inl (fun _ => 0)))]) rfl ?_
  refine j_aload_n X 0 dX7_init_40 rfl rfl ?_
  refine j_sipush (v := 144) X (by decide) dX7_init_41 ?_
  refine j_newI X hA 0 rfl mc_X7_init_arrI 144 (by decide) (by decide) (by decide) (Nat.le_of_ble_eq_true rfl) (Nat.le_of_ble_eq_true rfl) dX7_init_44 (fun x5 => ?_)
  refine j_weq (ws' := [(a, .inr (7, [.int 0, .ref x1, .int 0, .ref x2, .int 0, .int 0, .ref x3, .ref x4, .null, .null, .null, .null, .null, .null])), (x1, .inl (cI, 200, .inl (fun _ => 0))), (x2, .inl (cI, 156, .inl (fun _ => 0))), (x3, .inl (cI, 144, .inl (fun _ => 0))), (x4, .inl (cI, 144, .inl (fun _ => 0))), (x5, .inl (cI, 144, .inl (fun _ => 0)))]) rfl ?_
  refine j_putF X hnm 0 (C := RX7) (T := TX7) (N := 14) rfl rfl 8 (by decide) mc_X7_init_in RX7 mc_X7_init_f22 (fun x q => q) tyX7_ok nmX7 rfl rfl (ty := .array .int) (v := .ref x5) (by decide +kernel) rfl rfl (Nat.le_of_ble_eq_true rfl) dX7_init_46 ?_
  refine j_weq (ws' := [(a, .inr (7, [.int 0, .ref x1, .int 0, .ref x2, .int 0, .int 0, .ref x3, .ref x4, .ref x5, .null, .null, .null, .null, .null])), (x1, .inl (cI, 200, .inl (fun _ => 0))), (x2, .inl (cI, 156, .inl (fun _ => 0))), (x3, .inl (cI, 144, .inl (fun _ => 0))), (x4, .inl (cI, 144, .inl (fun _ => 0))), (x5, .inl (cI, 144, .inl (fun _ => 0)))]) rfl ?_
  refine j_aload_n X 0 dX7_init_49 rfl rfl ?_
  refine j_bipush (v := 8) X (by decide) dX7_init_50 ?_
  refine j_newI X hA 0 rfl mc_X7_init_arrI 8 (by decide) (by decide) (by decide) (Nat.le_of_ble_eq_true rfl) (Nat.le_of_ble_eq_true rfl) dX7_init_52 (fun x6 => ?_)
  refine j_weq (ws' := [(a, .inr (7, [.int 0, .ref x1, .int 0, .ref x2, .int 0, .int 0, .ref x3, .ref x4, .ref x5, .null, .null, .null, .null, .null])), (x1, .inl (cI, 200, .inl (fun _ => 0))), (x2, .inl (cI, 156, .inl (fun _ => 0))), (x3, .inl (cI, 144, .inl (fun _ => 0))), (x4, .inl (cI, 144, .inl (fun _ => 0))), (x5, .inl (cI, 144, .inl (fun _ => 0))), (x6, .inl (cI, 8, .inl (fun _ => 0)))]) rfl ?_
  refine j_putF X hnm 0 (C := RX7) (T := TX7) (N := 14) rfl rfl 9 (by decide) mc_X7_init_in RX7 mc_X7_init_f25 (fun x q => q) tyX7_ok nmX7 rfl rfl (ty := .array .int) (v := .ref x6) (by decide +kernel) rfl rfl (Nat.le_of_ble_eq_true rfl) dX7_init_54 ?_
  refine j_weq (ws' := [(a, .inr (7, [.int 0, .ref x1, .int 0, .ref x2, .int 0, .int 0, .ref x3, .ref x4, .ref x5, .ref x6, .null, .null, .null, .null])), (x1, .inl (cI, 200, .inl (fun _ => 0))), (x2, .inl (cI, 156, .inl (fun _ => 0))), (x3, .inl (cI, 144, .inl (fun _ => 0))), (x4, .inl (cI, 144, .inl (fun _ => 0))), (x5, .inl (cI, 144, .inl (fun _ => 0))), (x6, .inl (cI, 8, .inl (fun _ => 0)))]) rfl ?_
  refine j_aload_n X 0 dX7_init_57 rfl rfl ?_
  refine j_bipush (v := 8) X (by decide) dX7_init_58 ?_
  refine j_newZ X hA 1 rfl mc_X7_init_arrZ 8 (by decide) (by decide) (by decide) (Nat.le_of_ble_eq_true rfl) (Nat.le_of_ble_eq_true rfl) dX7_init_60 (fun x7 => ?_)
  refine j_weq (ws' := [(a, .inr (7, [.int 0, .ref x1, .int 0, .ref x2, .int 0, .int 0, .ref x3, .ref x4, .ref x5, .ref x6, .null, .null, .null, .null])), (x1, .inl (cI, 200, .inl (fun _ => 0))), (x2, .inl (cI, 156, .inl (fun _ => 0))), (x3, .inl (cI, 144, .inl (fun _ => 0))), (x4, .inl (cI, 144, .inl (fun _ => 0))), (x5, .inl (cI, 144, .inl (fun _ => 0))), (x6, .inl (cI, 8, .inl (fun _ => 0))), (x7, .inl (cZ, 8, .inl (fun _ => 0)))]) rfl ?_
  refine j_putF X hnm 0 (C := RX7) (T := TX7) (N := 14) rfl rfl 10 (by decide) mc_X7_init_in RX7 mc_X7_init_f28 (fun x q => q) tyX7_ok nmX7 rfl rfl (ty := .array .boolean) (v := .ref x7) (by decide +kernel) rfl rfl (Nat.le_of_ble_eq_true rfl) dX7_init_62 ?_
  refine j_weq (ws' := [(a, .inr (7, [.int 0, .ref x1, .int 0, .ref x2, .int 0, .int 0, .ref x3, .ref x4, .ref x5, .ref x6, .ref x7, .null, .null, .null])), (x1, .inl (cI, 200, .inl (fun _ => 0))), (x2, .inl (cI, 156, .inl (fun _ => 0))), (x3, .inl (cI, 144, .inl (fun _ => 0))), (x4, .inl (cI, 144, .inl (fun _ => 0))), (x5, .inl (cI, 144, .inl (fun _ => 0))), (x6, .inl (cI, 8, .inl (fun _ => 0))), (x7, .inl (cZ, 8, .inl (fun _ => 0)))]) rfl ?_
  refine j_aload_n X 0 dX7_init_65 rfl rfl ?_
  refine j_bipush (v := 8) X (by decide) dX7_init_66 ?_
  refine j_newZ X hA 1 rfl mc_X7_init_arrZ 8 (by decide) (by decide) (by decide) (Nat.le_of_ble_eq_true rfl) (Nat.le_of_ble_eq_true rfl) dX7_init_68 (fun x8 => ?_)
  refine j_weq (ws' := [(a, .inr (7, [.int 0, .ref x1, .int 0, .ref x2, .int 0, .int 0, .ref x3, .ref x4, .ref x5, .ref x6, .ref x7, .null, .null, .null])), (x1, .inl (cI, 200, .inl (fun _ => 0))), (x2, .inl (cI, 156, .inl (fun _ => 0))), (x3, .inl (cI, 144, .inl (fun _ => 0))), (x4, .inl (cI, 144, .inl (fun _ => 0))), (x5, .inl (cI, 144, .inl (fun _ => 0))), (x6, .inl (cI, 8, .inl (fun _ => 0))), (x7, .inl (cZ, 8, .inl (fun _ => 0))), (x8, .inl (cZ, 8, .inl (fun _ => 0)))]) rfl ?_
  refine j_putF X hnm 0 (C := RX7) (T := TX7) (N := 14) rfl rfl 11 (by decide) mc_X7_init_in RX7 mc_X7_init_f32 (fun x q => q) tyX7_ok nmX7 rfl rfl (ty := .array .boolean) (v := .ref x8) (by decide +kernel) rfl rfl (Nat.le_of_ble_eq_true rfl) dX7_init_70 ?_
  refine j_weq (ws' := [(a, .inr (7, [.int 0, .ref x1, .int 0, .ref x2, .int 0, .int 0, .ref x3, .ref x4, .ref x5, .ref x6, .ref x7, .ref x8, .null, .null])), (x1, .inl (cI, 200, .inl (fun _ => 0))), (x2, .inl (cI, 156, .inl (fun _ => 0))), (x3, .inl (cI, 144, .inl (fun _ => 0))), (x4, .inl (cI, 144, .inl (fun _ => 0))), (x5, .inl (cI, 144, .inl (fun _ => 0))), (x6, .inl (cI, 8, .inl (fun _ => 0))), (x7, .inl (cZ, 8, .inl (fun _ => 0))), (x8, .inl (cZ, 8, .inl (fun _ => 0)))]) rfl ?_
  refine j_aload_n X 0 dX7_init_73 rfl rfl ?_
  refine j_new X hA (ci := 6) (C := RX6) (T := TX6) (N := 5) (fs := [.int 0, .int 0, .null, .null, .null]) mc_X7_init_in6 tyX6_ok mc_X7_init_cl mc_X7_init_inst mc_X7_init_ini rfl (fun j hj => by rcases (show j = 0 ∨ j = 1 ∨ j = 2 ∨ j = 3 ∨ j = 4 by omega) with rfl | rfl | rfl | rfl | rfl <;> rfl) (Nat.le_of_ble_eq_true rfl) (Nat.le_of_ble_eq_true rfl) dX7_init_74 (fun x9 => ?_)
  refine j_dup X rfl dX7_init_77 ?_
  refine j_callIN X hA hZ (rest := [.ref x9, .ref a]) (b := x9) (wc := [(x9, .inr (6, [.int 0, .int 0, .null, .null, .null]))]) (wr := [(a, .inr (7, [.int 0, .ref x1, .int 0, .ref x2, .int 0, .int 0, .ref x3, .ref x4, .ref x5, .ref x6, .ref x7, .ref x8, .null, .null])), (x1, .inl (cI, 200, .inl (fun _ => 0))), (x2, .inl (cI, 156, .inl (fun _ => 0))), (x3, .inl (cI, 144, .inl (fun _ => 0))), (x4, .inl (cI, 144, .inl (fun _ => 0))), (x5, .inl (cI, 144, .inl (fun _ => 0))), (x6, .inl (cI, 8, .inl (fun _ => 0))), (x7, .inl (cZ, 8, .inl (fun _ => 0))), (x8, .inl (cZ, 8, .inl (fun _ => 0)))]) [9] [0, 1, 2, 3, 4, 5, 6, 7, 8] rfl rfl rfl rfl (by decide) [] (m_S x9) 0 rfl (hZ.2.2.2.1.1 _ mc_nest) ggX7_init_X6_init mc_X7_init_ini mc_X7_init_ins6 rfl rfl ⟨rfl, rfl⟩ mc_hy (by exact ⟨Nat.le_of_ble_eq_true rfl, Nat.le_of_ble_eq_true rfl⟩) rfl (Nat.le_of_ble_eq_true rfl) (by exact ⟨Nat.le_of_ble_eq_true rfl, Nat.le_of_ble_eq_true rfl⟩) dX7_init_78 (fun u9 _ => ?_)
  obtain ⟨x10, x11, x12⟩ := u9
  refine j_weq (ws' := [(a, .inr (7, [.int 0, .ref x1, .int 0, .ref x2, .int 0, .int 0, .ref x3, .ref x4, .ref x5, .ref x6, .ref x7, .ref x8, .null, .null])), (x1, .inl (cI, 200, .inl (fun _ => 0))), (x2, .inl (cI, 156, .inl (fun _ => 0))), (x3, .inl (cI, 144, .inl (fun _ => 0))), (x4, .inl (cI, 144, .inl (fun _ => 0))), (x5, .inl (cI, 144, .inl (fun _ => 0))), (x6, .inl (cI, 8, .inl (fun _ => 0))), (x7, .inl (cZ, 8, .inl (fun _ => 0))), (x8, .inl (cZ, 8, .inl (fun _ => 0))), (x9, .inr (6, [.int 0, .int 0, .ref x10, .ref x11, .ref x12])), (x10, .inl (cI, 1152, .inl (fun _ => 0))), (x11, .inl (cI, 80, .inl (fun _ => 0))), (x12, .inl (cI, 288, .inl (fun _ => 0)))]) rfl ?_
  refine j_putF X hnm 0 (C := RX7) (T := TX7) (N := 14) rfl rfl 12 (by decide) mc_X7_init_in RX7 mc_X7_init_f38 (fun x q => q) tyX7_ok nmX7 rfl rfl (ty := .object RX6) (v := .ref x9) (by decide +kernel) rfl rfl (Nat.le_of_ble_eq_true rfl) dX7_init_81 ?_
  refine j_weq (ws' := [(a, .inr (7, [.int 0, .ref x1, .int 0, .ref x2, .int 0, .int 0, .ref x3, .ref x4, .ref x5, .ref x6, .ref x7, .ref x8, .ref x9, .null])), (x1, .inl (cI, 200, .inl (fun _ => 0))), (x2, .inl (cI, 156, .inl (fun _ => 0))), (x3, .inl (cI, 144, .inl (fun _ => 0))), (x4, .inl (cI, 144, .inl (fun _ => 0))), (x5, .inl (cI, 144, .inl (fun _ => 0))), (x6, .inl (cI, 8, .inl (fun _ => 0))), (x7, .inl (cZ, 8, .inl (fun _ => 0))), (x8, .inl (cZ, 8, .inl (fun _ => 0))), (x9, .inr (6, [.int 0, .int 0, .ref x10, .ref x11, .ref x12])), (x10, .inl (cI, 1152, .inl (fun _ => 0))), (x11, .inl (cI, 80, .inl (fun _ => 0))), (x12, .inl (cI, 288, .inl (fun _ => 0)))]) rfl ?_
  refine j_aload_n X 0 dX7_init_84 rfl rfl ?_
  refine j_new X hA (ci := 6) (C := RX6) (T := TX6) (N := 5) (fs := [.int 0, .int 0, .null, .null, .null]) mc_X7_init_in6 tyX6_ok mc_X7_init_cl mc_X7_init_inst mc_X7_init_ini rfl (fun j hj => by rcases (show j = 0 ∨ j = 1 ∨ j = 2 ∨ j = 3 ∨ j = 4 by omega) with rfl | rfl | rfl | rfl | rfl <;> rfl) (Nat.le_of_ble_eq_true rfl) (Nat.le_of_ble_eq_true rfl) dX7_init_85 (fun x13 => ?_)
  refine j_dup X rfl dX7_init_88 ?_
  refine j_callIN X hA hZ (rest := [.ref x13, .ref a]) (b := x13) (wc := [(x13, .inr (6, [.int 0, .int 0, .null, .null, .null]))]) (wr := [(a, .inr (7, [.int 0, .ref x1, .int 0, .ref x2, .int 0, .int 0, .ref x3, .ref x4, .ref x5, .ref x6, .ref x7, .ref x8, .ref x9, .null])), (x1, .inl (cI, 200, .inl (fun _ => 0))), (x2, .inl (cI, 156, .inl (fun _ => 0))), (x3, .inl (cI, 144, .inl (fun _ => 0))), (x4, .inl (cI, 144, .inl (fun _ => 0))), (x5, .inl (cI, 144, .inl (fun _ => 0))), (x6, .inl (cI, 8, .inl (fun _ => 0))), (x7, .inl (cZ, 8, .inl (fun _ => 0))), (x8, .inl (cZ, 8, .inl (fun _ => 0))), (x9, .inr (6, [.int 0, .int 0, .ref x10, .ref x11, .ref x12])), (x10, .inl (cI, 1152, .inl (fun _ => 0))), (x11, .inl (cI, 80, .inl (fun _ => 0))), (x12, .inl (cI, 288, .inl (fun _ => 0)))]) [13] [0, 1, 2, 3, 4, 5, 6, 7, 8, 9, 10, 11, 12] rfl rfl rfl rfl (by decide) [] (m_S x13) 0 rfl (hZ.2.2.2.1.1 _ mc_nest) ggX7_init_X6_init mc_X7_init_ini mc_X7_init_ins6 rfl rfl ⟨rfl, rfl⟩ mc_hy (by exact ⟨Nat.le_of_ble_eq_true rfl, Nat.le_of_ble_eq_true rfl⟩) rfl (Nat.le_of_ble_eq_true rfl) (by exact ⟨Nat.le_of_ble_eq_true rfl, Nat.le_of_ble_eq_true rfl⟩) dX7_init_89 (fun u13 _ => ?_)
  obtain ⟨x14, x15, x16⟩ := u13
  refine j_weq (ws' := [(a, .inr (7, [.int 0, .ref x1, .int 0, .ref x2, .int 0, .int 0, .ref x3, .ref x4, .ref x5, .ref x6, .ref x7, .ref x8, .ref x9, .null])), (x1, .inl (cI, 200, .inl (fun _ => 0))), (x2, .inl (cI, 156, .inl (fun _ => 0))), (x3, .inl (cI, 144, .inl (fun _ => 0))), (x4, .inl (cI, 144, .inl (fun _ => 0))), (x5, .inl (cI, 144, .inl (fun _ => 0))), (x6, .inl (cI, 8, .inl (fun _ => 0))), (x7, .inl (cZ, 8, .inl (fun _ => 0))), (x8, .inl (cZ, 8, .inl (fun _ => 0))), (x9, .inr (6, [.int 0, .int 0, .ref x10, .ref x11, .ref x12])), (x10, .inl (cI, 1152, .inl (fun _ => 0))), (x11, .inl (cI, 80, .inl (fun _ => 0))), (x12, .inl (cI, 288, .inl (fun _ => 0))), (x13, .inr (6, [.int 0, .int 0, .ref x14, .ref x15, .ref x16])), (x14, .inl (cI, 1152, .inl (fun _ => 0))), (x15, .inl (cI, 80, .inl (fun _ => 0))), (x16, .inl (cI, 288, .inl (fun _ => 0)))]) rfl ?_
  refine j_putF X hnm 0 (C := RX7) (T := TX7) (N := 14) rfl rfl 13 (by decide) mc_X7_init_in RX7 mc_X7_init_f42 (fun x q => q) tyX7_ok nmX7 rfl rfl (ty := .object RX6) (v := .ref x13) (by decide +kernel) rfl rfl (Nat.le_of_ble_eq_true rfl) dX7_init_92 ?_
  refine j_weq (ws' := [(a, .inr (7, [.int 0, .ref x1, .int 0, .ref x2, .int 0, .int 0, .ref x3, .ref x4, .ref x5, .ref x6, .ref x7, .ref x8, .ref x9, .ref x13])), (x1, .inl (cI, 200, .inl (fun _ => 0))), (x2, .inl (cI, 156, .inl (fun _ => 0))), (x3, .inl (cI, 144, .inl (fun _ => 0))), (x4, .inl (cI, 144, .inl (fun _ => 0))), (x5, .inl (cI, 144, .inl (fun _ => 0))), (x6, .inl (cI, 8, .inl (fun _ => 0))), (x7, .inl (cZ, 8, .inl (fun _ => 0))), (x8, .inl (cZ, 8, .inl (fun _ => 0))), (x9, .inr (6, [.int 0, .int 0, .ref x10, .ref x11, .ref x12])), (x10, .inl (cI, 1152, .inl (fun _ => 0))), (x11, .inl (cI, 80, .inl (fun _ => 0))), (x12, .inl (cI, 288, .inl (fun _ => 0))), (x13, .inr (6, [.int 0, .int 0, .ref x14, .ref x15, .ref x16])), (x14, .inl (cI, 1152, .inl (fun _ => 0))), (x15, .inl (cI, 80, .inl (fun _ => 0))), (x16, .inl (cI, 288, .inl (fun _ => 0)))]) rfl ?_
  refine j_iconst (v := nI 0) X (by decide) dX7_init_95 ?_
  refine j_istore_n (lo' := [(1, .int (nI 0)), (0, .ref a)]) X dX7_init_96 rfl (by decide) rfl ?_
  have loop : ∀ f j, f + j = 144 → j_V p l e (headSpec wsX7_init { frames := 2, cells := 16, slots := 3862, locals := 64 }).room s m args below meth c (MQ below (va_Qv (fun _ : Nat → Nat => True) (j_B G (va_A [(a, .inr (7, [.int 0, .null, .int 0, .null, .int 0, .int 0, .null, .null, .null, .null, .null, .null, .null, .null]))] s.heap.size) (fun ad => m_w cI cZ ad m_Z0)) (va_A [(a, .inr (7, [.int 0, .null, .int 0, .null, .int 0, .int 0, .null, .null, .null, .null, .null, .null, .null, .null]))] s.heap.size)) args s 16 3862 (va_A [(a, .inr (7, [.int 0, .null, .int 0, .null, .int 0, .int 0, .null, .null, .null, .null, .null, .null, .null, .null]))] s.heap.size)) G 2 (va_A [(a, .inr (7, [.int 0, .null, .int 0, .null, .int 0, .int 0, .null, .null, .null, .null, .null, .null, .null, .null]))] s.heap.size) (0 + 1 + 1 + 1 + 1 + 1 + 1 + 1 + 1 + 1 + 3 + 1 + 3) (0 + 200 + 156 + 144 + 144 + 144 + 8 + 8 + 8 + 5 + 1520 + 5 + 1520) [(a, .inr (7, [.int 0, .ref x1, .int 0, .ref x2, .int 0, .int 0, .ref x3, .ref x4, .ref x5, .ref x6, .ref x7, .ref x8, .ref x9, .ref x13])), (x1, .inl (cI, 200, .inl (fun _ => 0))), (x2, .inl (cI, 156, .inl (fun _ => 0))), (x3, .inl (cI, 144, .inl (fun _ => 0))), (x4, .inl (cI, 144, .inl (fun _ => 0))), (x5, .inl (cI, 144, .inl (fun _ => 0))), (x6, .inl (cI, 8, .inl (fun _ => 0))), (x7, .inl (cZ, 8, .inl (fun _ => 0))), (x8, .inl (cZ, 8, .inl (fun _ => 0))), (x9, .inr (6, [.int 0, .int 0, .ref x10, .ref x11, .ref x12])), (x10, .inl (cI, 1152, .inl (zf j))), (x11, .inl (cI, 80, .inl (fun _ => 0))), (x12, .inl (cI, 288, .inl (fun _ => 0))), (x13, .inr (6, [.int 0, .int 0, .ref x14, .ref x15, .ref x16])), (x14, .inl (cI, 1152, .inl (fun _ => 0))), (x15, .inl (cI, 80, .inl (fun _ => 0))), (x16, .inl (cI, 288, .inl (fun _ => 0)))] 97 [(1, .int (nI j)), (0, .ref a)] [] := by
    intro f
    induction f with
    | zero =>
      intro j hj
      obtain rfl : j = 144 := by omega
      refine j_iload_n X 0 dX7_init_97 rfl rfl ?_
      refine j_sipush (v := nI 144) X (by decide) dX7_init_98 ?_
      refine j_ncmp_ge X 144 144 rfl rfl (by decide) (by decide) dX7_init_101 (tgt := 138) (by decide) (fun _ => ?_) (fun g => absurd g (by omega))
      exact j_vret X (fun i => [a, x1, x2, x3, x4, x5, x6, x7, x8, x9, x10, x11, x12, x13, x14, x15, x16].getD i 0) rfl dX7_init_138 trivial
    | succ f ih =>
      intro j hj
      refine j_iload_n X 0 dX7_init_97 rfl rfl ?_
      refine j_sipush (v := nI 144) X (by decide) dX7_init_98 ?_
      refine j_ncmp_ge X j 144 rfl rfl (by omega) (by decide) dX7_init_101 (tgt := 138) (by decide) (fun g => absurd g (by omega)) (fun _ => ?_)
      refine j_aload_n X 1 dX7_init_104 rfl rfl ?_
      refine j_get X 0 (C := RX7) (T := TX7) (N := 14) rfl rfl 12 (by decide) mc_X7_init_in RX7 mc_X7_init_f_s (fun x q => q) (v := .ref x9) rfl dX7_init_105 ?_
      refine j_getN X 9 rfl rfl 2 (by decide) mc_X7_init_in6 (hZ.2.2.2.1.1 _ xn_2) (fun x q => q) (v := .ref x10) rfl dX7_init_108 ?_
      refine j_bipush (v := nI 8) X (by decide) dX7_init_111 ?_
      refine j_iload_n X 0 dX7_init_113 rfl rfl ?_
      refine j_imulN X 8 j dX7_init_114 ?_
      refine j_iconst (v := 3) X (by decide) dX7_init_115 ?_
      refine j_iast X 10 0 rfl rfl (8 * j + 0) rfl (by omega) (by decide) dX7_init_116 ?_
      refine j_weq (ws' := [(a, .inr (7, [.int 0, .ref x1, .int 0, .ref x2, .int 0, .int 0, .ref x3, .ref x4, .ref x5, .ref x6, .ref x7, .ref x8, .ref x9, .ref x13])), (x1, .inl (cI, 200, .inl (fun _ => 0))), (x2, .inl (cI, 156, .inl (fun _ => 0))), (x3, .inl (cI, 144, .inl (fun _ => 0))), (x4, .inl (cI, 144, .inl (fun _ => 0))), (x5, .inl (cI, 144, .inl (fun _ => 0))), (x6, .inl (cI, 8, .inl (fun _ => 0))), (x7, .inl (cZ, 8, .inl (fun _ => 0))), (x8, .inl (cZ, 8, .inl (fun _ => 0))), (x9, .inr (6, [.int 0, .int 0, .ref x10, .ref x11, .ref x12])), (x10, .inl (cI, 1152, .inl (upd (zf j) (8 * j + 0) 3))), (x11, .inl (cI, 80, .inl (fun _ => 0))), (x12, .inl (cI, 288, .inl (fun _ => 0))), (x13, .inr (6, [.int 0, .int 0, .ref x14, .ref x15, .ref x16])), (x14, .inl (cI, 1152, .inl (fun _ => 0))), (x15, .inl (cI, 80, .inl (fun _ => 0))), (x16, .inl (cI, 288, .inl (fun _ => 0)))]) rfl ?_
      refine j_aload_n X 1 dX7_init_117 rfl rfl ?_
      refine j_get X 0 (C := RX7) (T := TX7) (N := 14) rfl rfl 12 (by decide) mc_X7_init_in RX7 mc_X7_init_f_s (fun x q => q) (v := .ref x9) rfl dX7_init_118 ?_
      refine j_getN X 9 rfl rfl 2 (by decide) mc_X7_init_in6 (hZ.2.2.2.1.1 _ xn_2) (fun x q => q) (v := .ref x10) rfl dX7_init_121 ?_
      refine j_bipush (v := nI 8) X (by decide) dX7_init_124 ?_
      refine j_iload_n X 0 dX7_init_126 rfl rfl ?_
      refine j_imulN X 8 j dX7_init_127 ?_
      refine j_iconst (v := nI 1) X (by decide) dX7_init_128 ?_
      refine j_iadd X dX7_init_129 ?_
      refine j_top (y := nI (8 * j + 1)) (nI_add _ _) ?_
      refine j_iconst (v := -1) X (by decide) dX7_init_130 ?_
      refine j_iast X 10 0 rfl rfl (8 * j + 1) rfl (by omega) (by decide) dX7_init_131 ?_
      refine j_weq (ws' := [(a, .inr (7, [.int 0, .ref x1, .int 0, .ref x2, .int 0, .int 0, .ref x3, .ref x4, .ref x5, .ref x6, .ref x7, .ref x8, .ref x9, .ref x13])), (x1, .inl (cI, 200, .inl (fun _ => 0))), (x2, .inl (cI, 156, .inl (fun _ => 0))), (x3, .inl (cI, 144, .inl (fun _ => 0))), (x4, .inl (cI, 144, .inl (fun _ => 0))), (x5, .inl (cI, 144, .inl (fun _ => 0))), (x6, .inl (cI, 8, .inl (fun _ => 0))), (x7, .inl (cZ, 8, .inl (fun _ => 0))), (x8, .inl (cZ, 8, .inl (fun _ => 0))), (x9, .inr (6, [.int 0, .int 0, .ref x10, .ref x11, .ref x12])), (x10, .inl (cI, 1152, .inl (zf (j + 1)))), (x11, .inl (cI, 80, .inl (fun _ => 0))), (x12, .inl (cI, 288, .inl (fun _ => 0))), (x13, .inr (6, [.int 0, .int 0, .ref x14, .ref x15, .ref x16])), (x14, .inl (cI, 1152, .inl (fun _ => 0))), (x15, .inl (cI, 80, .inl (fun _ => 0))), (x16, .inl (cI, 288, .inl (fun _ => 0)))]) rfl ?_
      refine j_iinc (v := nI (j + 1)) (lo' := [(1, .int (nI (j + 1))), (0, .ref a)]) X 0 dX7_init_132 rfl ((congrArg (nI j + ·) (show Int32.ofInt 1 = nI 1 by decide)).trans (nI_add j 1)) (by decide) rfl ?_
      refine j_goto X (tgt := 97) dX7_init_135 (by decide) ?_
      exact ih (j + 1) (by omega)
  exact loop 144 0 rfl
end ZMC
