section ZX2
variable {p : Program} {l : Launch} {e : Env} {R : Room} {s : State} {m : MethodId} {args : Array Value} {below : List Frame} {meth : Method} {c : Code} {Q : State → Prop}
variable {G : va_G} {cI cZ cT : ClassId} {o nL : Nat} {cc : ByteArray} {own : String} {Ts : List Cond} {rt : Option FieldType} {S : zS} {pc : Nat} {lo lo' : List (Nat × Value)} {st rest : List Value}
def zD (l : Launch) (G : va_G) (cI cZ cT : ClassId) (o : Nat) (y : MethodName) (ws : List Cond) (rm : Room) (av : List Value) (S : zS) (post : UInt64 → zS → Prop) : Prop :=
  ∀ sz : Nat, Met l y ws rm (z_Pc G cI cZ cT o sz S av) (va_Qd post (z_B G cI cZ cT o) (z_A o sz)) 0 0 (z_A o sz)
theorem z_ofD {y : MethodName} {ws ws' : List Cond} {rm : Room} {maxL : Nat} {av : List Value} {post : UInt64 → zS → Prop} (hy : plainName y.cls = true) (hw : ws = Cond.code y cc maxL (some .double) :: ws') (hn : (lg_sl av).length ≤ maxL)
    (body : ∀ (p : Program) (e : Env) (s : State) (m : MethodId) (args : Array Value) (below : List Frame) (meth : Method) (c : Code), z_X p s m args meth c cc maxL y.cls ws (some .double) G cI cZ cT o → z_V p l e (headSpec ws rm).room s m args below meth c (MQ below (va_Qd post (z_B G cI cZ cT o) (z_A o s.heap.size)) args s 0 0 (z_A o s.heap.size)) G cI cZ cT o maxL S 0 (lv_args 0 av) []) : zD l G cI cZ cT o y ws rm av S post := by
  intro sz
  refine Met.ofW (cc := cc) (maxL := maxL) (ret := (some .double)) hy hw ?_
  intro p e s m args below meth c s₁ B hml hv
  obtain ⟨rfl, hsz, hP, hK, hN, hZ, hs⟩ := hv
  subst hsz
  have hts := atoms_spec (ws := ws) B.pre
  have hown : s.vm.findClass y.cls = some m.cls := findClass_of_methodNamed B.named
  rw [lg_entry_eq]
  exact body p e s m _ below meth c ⟨⟨B.exec, B.bytes, hml, hown, hts⟩, hK, hN, hZ, hs, B.returns, B.notSynchronized⟩ s.heap [] _ hP va_S.rf (lv_entry av hn)
theorem v_dret (X : z_X p s m args meth c cc nL own Ts (some .double) G cI cZ cT o) {post : UInt64 → zS → Prop} {r : UInt64} (hd : decode cc pc = .ok (.dreturn, 1)) (hp : post r S) : z_V p l e R s m args below meth c (MQ below (va_Qd post (z_B G cI cZ cT o) (z_A o s.heap.size)) args s 0 0 (z_A o s.heap.size)) G cI cZ cT o nL S pc lo [.double r] := fun H locs ls hP hS h => W.dret X.1.1 X.1.2.1 X.2.2.2.2.2.1 (fun t ht hW => ⟨⟨r, S, rfl, hp, by show va_P _ _ _ t.heap; rw [ht]; exact hP⟩, hS.F ht⟩) hS.2.2 hd X.2.2.2.2.2.2
theorem v_dconst0 (X : z_X p s m args meth c cc nL own Ts rt G cI cZ cT o) (hd : decode cc pc = .ok (.dconst 0, 1)) (kk : z_V p l e R s m args below meth c Q G cI cZ cT o nL S (pc + 1) lo (.double FP.dconst0 :: st)) : z_V p l e R s m args below meth c Q G cI cZ cT o nL S pc lo st := fun H locs ls hP hS h => (fun k => lv_dconst0 X.1.1 X.1.2.1 hd k) (kk H locs ls hP hS h)
set_option maxRecDepth 100000 in
set_option maxHeartbeats 4000000 in
/-- X5_isInside -/
theorem c_X5_isInsideG (l : Launch) (G : va_G) (cI cZ cT : ClassId) (o : Nat) (S : zS) (x y : Int32) : zI l G cI cZ cT o yX5_isInside wsX5_isInside { frames := 0, cells := 0, slots := 0, locals := 0 } [.int x, .int y] S (fun r u => r = s_pin x y ∧ u = S) := by
  refine z_ofZb (cc := cX5_isInside) (maxL := 2) (by decide) rfl (by simp [lg_sl, Value.category]) ?_
  intro p9 e9 s9 m9 a9 b9 h9 c9 X
  refine v_lo [0, 1] (lo' := [(0, .int x), (1, .int y)]) rfl ?_
  refine v_iload_n X 0 dX5_isInside_0 rfl rfl ?_
  refine v_if_lt X (tgt := 24) dX5_isInside_1 (by decide) (fun c_1 => ?_) (fun c_1 => ?_)
  ·
    refine v_iconst (v := 0) X (by decide) dX5_isInside_24 ?_
    exact v_zret X rfl dX5_isInside_25 (by exact ⟨(s_pin_0 (fun q => q.1.1 c_1)).symm, rfl⟩)
  ·
    refine v_iload_n X 0 dX5_isInside_4 rfl rfl ?_
    refine v_bipush (v := 12) X (by decide) dX5_isInside_5 ?_
    refine v_icmp_ge X (tgt := 24) dX5_isInside_7 (by decide) (fun c_7 => ?_) (fun c_7 => ?_)
    ·
      refine v_iconst (v := 0) X (by decide) dX5_isInside_24 ?_
      exact v_zret X rfl dX5_isInside_25 (by exact ⟨(s_pin_0 (fun q => c_7 q.1.2)).symm, rfl⟩)
    ·
      refine v_iload_n X 1 dX5_isInside_10 rfl rfl ?_
      refine v_if_lt X (tgt := 24) dX5_isInside_11 (by decide) (fun c_11 => ?_) (fun c_11 => ?_)
      ·
        refine v_iconst (v := 0) X (by decide) dX5_isInside_24 ?_
        exact v_zret X rfl dX5_isInside_25 (by exact ⟨(s_pin_0 (fun q => q.2.1 c_11)).symm, rfl⟩)
      ·
        refine v_iload_n X 1 dX5_isInside_14 rfl rfl ?_
        refine v_bipush (v := 12) X (by decide) dX5_isInside_15 ?_
        refine v_icmp_ge X (tgt := 24) dX5_isInside_17 (by decide) (fun c_17 => ?_) (fun c_17 => ?_)
        ·
          refine v_iconst (v := 0) X (by decide) dX5_isInside_24 ?_
          exact v_zret X rfl dX5_isInside_25 (by exact ⟨(s_pin_0 (fun q => c_17 q.2.2)).symm, rfl⟩)
        ·
          refine v_iconst (v := 1) X (by decide) dX5_isInside_20 ?_
          refine v_goto (tgt := 25) X dX5_isInside_21 (by decide) ?_
          exact v_zret X rfl dX5_isInside_25 (by exact ⟨(s_pin_1 ⟨⟨c_1, c_7⟩, c_11, c_17⟩).symm, rfl⟩)
theorem hasTeam_0 {S : zS} (h : S 0 12 0 = nI 0) (t : Int32) : s_hasTeam S 0 t = 0 := by
  unfold s_hasTeam
  by_cases c : t < 0
  · rw [if_pos c]
  · rw [if_neg c, h]; exact if_neg c
theorem xm_X5_trim_IAE : ∀ w ∈ Cond.classLink RX5 55 "java/lang/IllegalArgumentException" :: Cond.initialized "java/lang/IllegalArgumentException" :: (vx_atS RX5 59 "java/lang/IllegalArgumentException" ["java/lang/RuntimeException", "java/lang/Exception"]).filter goodWord, w ∈ wsX5_trim := fun w hw => by
  rcases List.mem_cons.mp hw with rfl | hw
  · decide +kernel
  rcases List.mem_cons.mp hw with rfl | hw
  · decide +kernel
  first
    | exact List.mem_cons_of_mem _ (List.mem_append_right _ hw)
    | exact List.mem_cons_of_mem _ (List.mem_append_left _ (List.mem_append_right _ hw))
    | exact List.mem_cons_of_mem _ (List.mem_append_left _ (List.mem_append_left _ (List.mem_append_right _ hw)))
set_option maxRecDepth 100000 in
set_option maxHeartbeats 4000000 in
theorem t_X5_trim (l : Launch) (hl9 : l.stackTraces = false) (G : va_G) (cI cZ cT : ClassId) (o : Nat) (S : zS) (q : Int32) (el : S 2 1 0 = nI 0) (hq : q ≠ 0) : zX l G cI cZ cT o yX5_trim wsX5_trim { frames := 6, cells := 1, slots := 6, locals := 82 } [.ref (o + 0), .int q] S "java/lang/IllegalArgumentException" := by
  refine z_ofX (cc := cX5_trim) (maxL := 2) (by decide) rfl (by simp [lg_sl, Value.category]) ?_
  intro p9 e9 s9 m9 a9 b9 h9 c9 X hE9 ht9
  refine v_lo [0, 1] (lo' := [(0, .ref (o + 0)), (1, .int q)]) rfl ?_
  refine v_iload_n X 1 dX5_trim_0 rfl rfl ?_
  refine v_if_lt X (tgt := 15) dX5_trim_1 (by decide) (fun c_1 => ?_) (fun c_1 => ?_)
  ·
    exact x_throw hl9 X hE9 ht9 (text := "not so many bytes") (is := 57) (by simp [x_cast]) xf_IAE (by simp [x_strs]) xm_X5_trim_IAE xb_IAE xg_IAE dX5_trim_15 dX5_trim_18 dX5_trim_19 dX5_trim_21 dX5_trim_24 (Nat.le_of_ble_eq_true rfl) (Nat.le_of_ble_eq_true rfl) (Nat.le_of_ble_eq_true rfl) (Nat.le_of_ble_eq_true rfl)
  ·
    refine v_iload_n X 1 dX5_trim_4 rfl rfl ?_
    refine v_aload_n X 0 dX5_trim_5 rfl rfl ?_
    refine v_getX X 0 (by decide) hi_X5_trim_X5 hl_X5_trim_10 rfl (v := .ref (o + 1)) rfl dX5_trim_6 ?_
    refine v_getP X 1 (by decide) hi_X5_trim_X2 hl_X5_trim_41 rfl (v := .int (S 2 1 0)) rfl dX5_trim_9 ?_
    refine v_top (y := nI 0) (el) ?_
    refine v_icmp_le X (tgt := 25) dX5_trim_12 (by decide) (fun c_12 => ?_) (fun c_12 => ?_)
    ·
      exact absurd (eq_zero c_1 c_12) hq
    ·
      exact x_throw hl9 X hE9 ht9 (text := "not so many bytes") (is := 57) (by simp [x_cast]) xf_IAE (by simp [x_strs]) xm_X5_trim_IAE xb_IAE xg_IAE dX5_trim_15 dX5_trim_18 dX5_trim_19 dX5_trim_21 dX5_trim_24 (Nat.le_of_ble_eq_true rfl) (Nat.le_of_ble_eq_true rfl) (Nat.le_of_ble_eq_true rfl) (Nat.le_of_ble_eq_true rfl)
theorem xm_X5_openAt_IOB : ∀ w ∈ Cond.classLink RX5 84 "java/lang/IndexOutOfBoundsException" :: Cond.initialized "java/lang/IndexOutOfBoundsException" :: (vx_atS RX5 88 "java/lang/IndexOutOfBoundsException" ["java/lang/RuntimeException", "java/lang/Exception"]).filter goodWord, w ∈ wsX5_openAt := fun w hw => by
  rcases List.mem_cons.mp hw with rfl | hw
  · decide +kernel
  rcases List.mem_cons.mp hw with rfl | hw
  · decide +kernel
  first
    | exact List.mem_cons_of_mem _ (List.mem_append_right _ hw)
    | exact List.mem_cons_of_mem _ (List.mem_append_left _ (List.mem_append_right _ hw))
    | exact List.mem_cons_of_mem _ (List.mem_append_left _ (List.mem_append_left _ (List.mem_append_right _ hw)))
set_option maxRecDepth 100000 in
set_option maxHeartbeats 4000000 in
theorem t_X5_openAt (l : Launch) (hl9 : l.stackTraces = false) (G : va_G) (cI cZ cT : ClassId) (o : Nat) (S : zS) (x y : Int32) (hp : ¬ pin x y) : zX l G cI cZ cT o yX5_openAt wsX5_openAt { frames := 6, cells := 1, slots := 6, locals := 82 } [.ref (o + 0), .int x, .int y] S "java/lang/IndexOutOfBoundsException" := by
  refine z_ofX (cc := cX5_openAt) (maxL := 5) (by decide) rfl (by simp [lg_sl, Value.category]) ?_
  intro p9 e9 s9 m9 a9 b9 h9 c9 X hE9 ht9
  refine v_lo [0, 1, 2] (lo' := [(0, .ref (o + 0)), (1, .int x), (2, .int y)]) rfl ?_
  refine v_iload_n X 1 dX5_openAt_0 rfl rfl ?_
  refine v_iload_n X 2 dX5_openAt_1 rfl rfl ?_
  refine v_callSIf X [.int x, .int y] (c_X5_isInsideG l G cI cZ cT o S x y) 2 rfl gX5_openAt_X5_isInside rfl ⟨rfl, rfl⟩ hy_X5_isInside_S ⟨Nat.le_of_ble_eq_true rfl, Nat.le_of_ble_eq_true rfl⟩ rfl (Nat.le_of_ble_eq_true rfl) dX5_openAt_2 ?_
  refine v_top (y := 0) (s_pin_0 hp) ?_
  refine v_if_ne X (tgt := 18) dX5_openAt_5 (by decide) (fun q => absurd q (by decide)) (fun _ => ?_)
  exact x_throw hl9 X hE9 ht9 (text := "no such cell") (is := 86) (by simp [x_cast]) xf_IOB (by simp [x_strs]) xm_X5_openAt_IOB xb_IOB xg_IOB dX5_openAt_8 dX5_openAt_11 dX5_openAt_12 dX5_openAt_14 dX5_openAt_17 (Nat.le_of_ble_eq_true rfl) (Nat.le_of_ble_eq_true rfl) (Nat.le_of_ble_eq_true rfl) (Nat.le_of_ble_eq_true rfl)
theorem xm_X5_cell_IOB : ∀ w ∈ Cond.classLink RX5 84 "java/lang/IndexOutOfBoundsException" :: Cond.initialized "java/lang/IndexOutOfBoundsException" :: (vx_atS RX5 88 "java/lang/IndexOutOfBoundsException" ["java/lang/RuntimeException", "java/lang/Exception"]).filter goodWord, w ∈ wsX5_cell := fun w hw => by
  rcases List.mem_cons.mp hw with rfl | hw
  · decide +kernel
  rcases List.mem_cons.mp hw with rfl | hw
  · decide +kernel
  first
    | exact List.mem_cons_of_mem _ (List.mem_append_right _ hw)
    | exact List.mem_cons_of_mem _ (List.mem_append_left _ (List.mem_append_right _ hw))
    | exact List.mem_cons_of_mem _ (List.mem_append_left _ (List.mem_append_left _ (List.mem_append_right _ hw)))
set_option maxRecDepth 100000 in
set_option maxHeartbeats 4000000 in
theorem t_X5_cell (l : Launch) (hl9 : l.stackTraces = false) (G : va_G) (cI cZ cT : ClassId) (o : Nat) (S : zS) (x y k : Int32) (hp : ¬ (pin x y ∧ ¬ k < 0 ∧ k < 8)) : zX l G cI cZ cT o yX5_cell wsX5_cell { frames := 6, cells := 1, slots := 6, locals := 82 } [.ref (o + 0), .int x, .int y, .int k] S "java/lang/IndexOutOfBoundsException" := by
  refine z_ofX (cc := cX5_cell) (maxL := 4) (by decide) rfl (by simp [lg_sl, Value.category]) ?_
  intro p9 e9 s9 m9 a9 b9 h9 c9 X hE9 ht9
  refine v_lo [0, 1, 2, 3] (lo' := [(0, .ref (o + 0)), (1, .int x), (2, .int y), (3, .int k)]) rfl ?_
  refine v_iload_n X 1 dX5_cell_0 rfl rfl ?_
  refine v_iload_n X 2 dX5_cell_1 rfl rfl ?_
  refine v_callSIf X [.int x, .int y] (c_X5_isInsideG l G cI cZ cT o S x y) 2 rfl gX5_cell_X5_isInside rfl ⟨rfl, rfl⟩ hy_X5_isInside_S ⟨Nat.le_of_ble_eq_true rfl, Nat.le_of_ble_eq_true rfl⟩ rfl (Nat.le_of_ble_eq_true rfl) dX5_cell_2 ?_
  refine v_if_eq X (tgt := 18) dX5_cell_5 (by decide) (fun c_5 => ?_) (fun c_5 => ?_)
  ·
    exact x_throw hl9 X hE9 ht9 (text := "no such cell or value") (is := 108) (by simp [x_cast]) xf_IOB (by simp [x_strs]) xm_X5_cell_IOB xb_IOB xg_IOB dX5_cell_18 dX5_cell_21 dX5_cell_22 dX5_cell_24 dX5_cell_27 (Nat.le_of_ble_eq_true rfl) (Nat.le_of_ble_eq_true rfl) (Nat.le_of_ble_eq_true rfl) (Nat.le_of_ble_eq_true rfl)
  ·
    refine v_iload_n X 3 dX5_cell_8 rfl rfl ?_
    refine v_if_lt X (tgt := 18) dX5_cell_9 (by decide) (fun c_9 => ?_) (fun c_9 => ?_)
    ·
      exact x_throw hl9 X hE9 ht9 (text := "no such cell or value") (is := 108) (by simp [x_cast]) xf_IOB (by simp [x_strs]) xm_X5_cell_IOB xb_IOB xg_IOB dX5_cell_18 dX5_cell_21 dX5_cell_22 dX5_cell_24 dX5_cell_27 (Nat.le_of_ble_eq_true rfl) (Nat.le_of_ble_eq_true rfl) (Nat.le_of_ble_eq_true rfl) (Nat.le_of_ble_eq_true rfl)
    ·
      refine v_iload_n X 3 dX5_cell_12 rfl rfl ?_
      refine v_bipush (v := 8) X (by decide) dX5_cell_13 ?_
      refine v_icmp_lt X (tgt := 28) dX5_cell_15 (by decide) (fun c_15 => ?_) (fun c_15 => ?_)
      ·
        exact absurd ⟨pin_1 c_5, c_9, c_15⟩ hp
      ·
        exact x_throw hl9 X hE9 ht9 (text := "no such cell or value") (is := 108) (by simp [x_cast]) xf_IOB (by simp [x_strs]) xm_X5_cell_IOB xb_IOB xg_IOB dX5_cell_18 dX5_cell_21 dX5_cell_22 dX5_cell_24 dX5_cell_27 (Nat.le_of_ble_eq_true rfl) (Nat.le_of_ble_eq_true rfl) (Nat.le_of_ble_eq_true rfl) (Nat.le_of_ble_eq_true rfl)
theorem xm_X5_come_IOB : ∀ w ∈ Cond.classLink RX5 84 "java/lang/IndexOutOfBoundsException" :: Cond.initialized "java/lang/IndexOutOfBoundsException" :: (vx_atS RX5 88 "java/lang/IndexOutOfBoundsException" ["java/lang/RuntimeException", "java/lang/Exception"]).filter goodWord, w ∈ wsX5_come := fun w hw => by
  rcases List.mem_cons.mp hw with rfl | hw
  · decide +kernel
  rcases List.mem_cons.mp hw with rfl | hw
  · decide +kernel
  first
    | exact List.mem_cons_of_mem _ (List.mem_append_right _ hw)
    | exact List.mem_cons_of_mem _ (List.mem_append_left _ (List.mem_append_right _ hw))
    | exact List.mem_cons_of_mem _ (List.mem_append_left _ (List.mem_append_left _ (List.mem_append_right _ hw)))
set_option maxRecDepth 100000 in
set_option maxHeartbeats 4000000 in
theorem t_X5_come1 (l : Launch) (hl9 : l.stackTraces = false) (G : va_G) (cI cZ cT : ClassId) (o : Nat) (S : zS) (sd x y hh kk : Int32) (hp : ¬ pin x y) : zX l G cI cZ cT o yX5_come wsX5_come { frames := 6, cells := 1, slots := 6, locals := 82 } [.ref (o + 0), .int sd, .int x, .int y, .int hh, .int kk] S "java/lang/IndexOutOfBoundsException" := by
  refine z_ofX (cc := cX5_come) (maxL := 8) (by decide) rfl (by simp [lg_sl, Value.category]) ?_
  intro p9 e9 s9 m9 a9 b9 h9 c9 X hE9 ht9
  refine v_lo [0, 1, 2, 3, 4, 5] (lo' := [(0, .ref (o + 0)), (1, .int sd), (2, .int x), (3, .int y), (4, .int hh), (5, .int kk)]) rfl ?_
  refine v_iload_n X 2 dX5_come_0 rfl rfl ?_
  refine v_iload_n X 3 dX5_come_1 rfl rfl ?_
  refine v_callSIf X [.int x, .int y] (c_X5_isInsideG l G cI cZ cT o S x y) 2 rfl gX5_come_X5_isInside rfl ⟨rfl, rfl⟩ hy_X5_isInside_S ⟨Nat.le_of_ble_eq_true rfl, Nat.le_of_ble_eq_true rfl⟩ rfl (Nat.le_of_ble_eq_true rfl) dX5_come_2 ?_
  refine v_top (y := 0) (s_pin_0 hp) ?_
  refine v_if_ne X (tgt := 18) dX5_come_5 (by decide) (fun q => absurd q (by decide)) (fun _ => ?_)
  exact x_throw hl9 X hE9 ht9 (text := "no such cell") (is := 86) (by simp [x_cast]) xf_IOB (by simp [x_strs]) xm_X5_come_IOB xb_IOB xg_IOB dX5_come_8 dX5_come_11 dX5_come_12 dX5_come_14 dX5_come_17 (Nat.le_of_ble_eq_true rfl) (Nat.le_of_ble_eq_true rfl) (Nat.le_of_ble_eq_true rfl) (Nat.le_of_ble_eq_true rfl)
theorem xm_X5_come_IAE : ∀ w ∈ Cond.classLink RX5 55 "java/lang/IllegalArgumentException" :: Cond.initialized "java/lang/IllegalArgumentException" :: (vx_atS RX5 59 "java/lang/IllegalArgumentException" ["java/lang/RuntimeException", "java/lang/Exception"]).filter goodWord, w ∈ wsX5_come := fun w hw => by
  rcases List.mem_cons.mp hw with rfl | hw
  · decide +kernel
  rcases List.mem_cons.mp hw with rfl | hw
  · decide +kernel
  first
    | exact List.mem_cons_of_mem _ (List.mem_append_right _ hw)
    | exact List.mem_cons_of_mem _ (List.mem_append_left _ (List.mem_append_right _ hw))
    | exact List.mem_cons_of_mem _ (List.mem_append_left _ (List.mem_append_left _ (List.mem_append_right _ hw)))
set_option maxRecDepth 100000 in
set_option maxHeartbeats 4000000 in
theorem t_X5_come2 (l : Launch) (hl9 : l.stackTraces = false) (G : va_G) (cI cZ cT : ClassId) (o : Nat) (S : zS) (sd x y hh kk : Int32) (hp : pin x y) (hb : ¬ (¬ sd < 0 ∧ ¬ 1 < sd ∧ ¬ hh < 1 ∧ ¬ 9 < hh ∧ ¬ kk < 1 ∧ ¬ 5 < kk)) : zX l G cI cZ cT o yX5_come wsX5_come { frames := 6, cells := 1, slots := 6, locals := 82 } [.ref (o + 0), .int sd, .int x, .int y, .int hh, .int kk] S "java/lang/IllegalArgumentException" := by
  refine z_ofX (cc := cX5_come) (maxL := 8) (by decide) rfl (by simp [lg_sl, Value.category]) ?_
  intro p9 e9 s9 m9 a9 b9 h9 c9 X hE9 ht9
  refine v_lo [0, 1, 2, 3, 4, 5] (lo' := [(0, .ref (o + 0)), (1, .int sd), (2, .int x), (3, .int y), (4, .int hh), (5, .int kk)]) rfl ?_
  refine v_iload_n X 2 dX5_come_0 rfl rfl ?_
  refine v_iload_n X 3 dX5_come_1 rfl rfl ?_
  refine v_callSIf X [.int x, .int y] (c_X5_isInsideG l G cI cZ cT o S x y) 2 rfl gX5_come_X5_isInside rfl ⟨rfl, rfl⟩ hy_X5_isInside_S ⟨Nat.le_of_ble_eq_true rfl, Nat.le_of_ble_eq_true rfl⟩ rfl (Nat.le_of_ble_eq_true rfl) dX5_come_2 ?_
  refine v_top (y := 1) (s_pin_1 hp) ?_
  refine v_if_ne X (tgt := 18) dX5_come_5 (by decide) (fun _ => ?_) (fun q => absurd q (by decide))
  refine v_iload_n X 1 dX5_come_18 rfl rfl ?_
  refine v_if_lt X (tgt := 52) dX5_come_19 (by decide) (fun c_19 => ?_) (fun c_19 => ?_)
  ·
    exact x_throw hl9 X hE9 ht9 (text := "no such team can be") (is := 113) (by simp [x_cast]) xf_IAE (by simp [x_strs]) xm_X5_come_IAE xb_IAE xg_IAE dX5_come_52 dX5_come_55 dX5_come_56 dX5_come_58 dX5_come_61 (Nat.le_of_ble_eq_true rfl) (Nat.le_of_ble_eq_true rfl) (Nat.le_of_ble_eq_true rfl) (Nat.le_of_ble_eq_true rfl)
  ·
    refine v_iload_n X 1 dX5_come_22 rfl rfl ?_
    refine v_iconst (v := 1) X (by decide) dX5_come_23 ?_
    refine v_icmp_gt X (tgt := 52) dX5_come_24 (by decide) (fun c_24 => ?_) (fun c_24 => ?_)
    ·
      exact x_throw hl9 X hE9 ht9 (text := "no such team can be") (is := 113) (by simp [x_cast]) xf_IAE (by simp [x_strs]) xm_X5_come_IAE xb_IAE xg_IAE dX5_come_52 dX5_come_55 dX5_come_56 dX5_come_58 dX5_come_61 (Nat.le_of_ble_eq_true rfl) (Nat.le_of_ble_eq_true rfl) (Nat.le_of_ble_eq_true rfl) (Nat.le_of_ble_eq_true rfl)
    ·
      refine v_iload X 4 dX5_come_27 rfl ?_
      refine v_iconst (v := 1) X (by decide) dX5_come_29 ?_
      refine v_icmp_lt X (tgt := 52) dX5_come_30 (by decide) (fun c_30 => ?_) (fun c_30 => ?_)
      ·
        exact x_throw hl9 X hE9 ht9 (text := "no such team can be") (is := 113) (by simp [x_cast]) xf_IAE (by simp [x_strs]) xm_X5_come_IAE xb_IAE xg_IAE dX5_come_52 dX5_come_55 dX5_come_56 dX5_come_58 dX5_come_61 (Nat.le_of_ble_eq_true rfl) (Nat.le_of_ble_eq_true rfl) (Nat.le_of_ble_eq_true rfl) (Nat.le_of_ble_eq_true rfl)
      ·
        refine v_iload X 4 dX5_come_33 rfl ?_
        refine v_bipush (v := 9) X (by decide) dX5_come_35 ?_
        refine v_icmp_gt X (tgt := 52) dX5_come_37 (by decide) (fun c_37 => ?_) (fun c_37 => ?_)
        ·
          exact x_throw hl9 X hE9 ht9 (text := "no such team can be") (is := 113) (by simp [x_cast]) xf_IAE (by simp [x_strs]) xm_X5_come_IAE xb_IAE xg_IAE dX5_come_52 dX5_come_55 dX5_come_56 dX5_come_58 dX5_come_61 (Nat.le_of_ble_eq_true rfl) (Nat.le_of_ble_eq_true rfl) (Nat.le_of_ble_eq_true rfl) (Nat.le_of_ble_eq_true rfl)
        ·
          refine v_iload X 5 dX5_come_40 rfl ?_
          refine v_iconst (v := 1) X (by decide) dX5_come_42 ?_
          refine v_icmp_lt X (tgt := 52) dX5_come_43 (by decide) (fun c_43 => ?_) (fun c_43 => ?_)
          ·
            exact x_throw hl9 X hE9 ht9 (text := "no such team can be") (is := 113) (by simp [x_cast]) xf_IAE (by simp [x_strs]) xm_X5_come_IAE xb_IAE xg_IAE dX5_come_52 dX5_come_55 dX5_come_56 dX5_come_58 dX5_come_61 (Nat.le_of_ble_eq_true rfl) (Nat.le_of_ble_eq_true rfl) (Nat.le_of_ble_eq_true rfl) (Nat.le_of_ble_eq_true rfl)
          ·
            refine v_iload X 5 dX5_come_46 rfl ?_
            refine v_iconst (v := 5) X (by decide) dX5_come_48 ?_
            refine v_icmp_le X (tgt := 62) dX5_come_49 (by decide) (fun c_49 => ?_) (fun c_49 => ?_)
            ·
              exact absurd ⟨c_19, c_24, c_30, c_37, c_43, c_49⟩ hb
            ·
              exact x_throw hl9 X hE9 ht9 (text := "no such team can be") (is := 113) (by simp [x_cast]) xf_IAE (by simp [x_strs]) xm_X5_come_IAE xb_IAE xg_IAE dX5_come_52 dX5_come_55 dX5_come_56 dX5_come_58 dX5_come_61 (Nat.le_of_ble_eq_true rfl) (Nat.le_of_ble_eq_true rfl) (Nat.le_of_ble_eq_true rfl) (Nat.le_of_ble_eq_true rfl)
theorem xm_X5_come_ISE : ∀ w ∈ Cond.classLink RX5 44 "java/lang/IllegalStateException" :: Cond.initialized "java/lang/IllegalStateException" :: (vx_atS RX5 48 "java/lang/IllegalStateException" ["java/lang/RuntimeException", "java/lang/Exception"]).filter goodWord, w ∈ wsX5_come := fun w hw => by
  rcases List.mem_cons.mp hw with rfl | hw
  · decide +kernel
  rcases List.mem_cons.mp hw with rfl | hw
  · decide +kernel
  first
    | exact List.mem_cons_of_mem _ (List.mem_append_right _ hw)
    | exact List.mem_cons_of_mem _ (List.mem_append_left _ (List.mem_append_right _ hw))
    | exact List.mem_cons_of_mem _ (List.mem_append_left _ (List.mem_append_left _ (List.mem_append_right _ hw)))
set_option maxRecDepth 100000 in
set_option maxHeartbeats 4000000 in
theorem t_X5_come3 (l : Launch) (hl9 : l.stackTraces = false) (G : va_G) (cI cZ cT : ClassId) (o : Nat) (S : zS) (a b : Nat) (sd hh kk : Int32) (ha : a < 12) (hb : b < 12) (hg : ¬ sd < 0 ∧ ¬ 1 < sd ∧ ¬ hh < 1 ∧ ¬ 9 < hh ∧ ¬ kk < 1 ∧ ¬ 5 < kk) (en : S 0 12 0 = nI 0) (hu : S 0 2 (12 * b + a) = 0) : zX l G cI cZ cT o yX5_come wsX5_come { frames := 6, cells := 1, slots := 6, locals := 82 } [.ref (o + 0), .int sd, .int (nI a), .int (nI b), .int hh, .int kk] S "java/lang/IllegalStateException" := by
  refine z_ofX (cc := cX5_come) (maxL := 8) (by decide) rfl (by simp [lg_sl, Value.category]) ?_
  intro p9 e9 s9 m9 a9 b9 h9 c9 X hE9 ht9
  refine v_lo [0, 1, 2, 3, 4, 5] (lo' := [(0, .ref (o + 0)), (1, .int sd), (2, .int (nI a)), (3, .int (nI b)), (4, .int hh), (5, .int kk)]) rfl ?_
  refine v_iload_n X 2 dX5_come_0 rfl rfl ?_
  refine v_iload_n X 3 dX5_come_1 rfl rfl ?_
  refine v_callSIf X [.int (nI a), .int (nI b)] (c_X5_isInside l G cI cZ cT o S a b (by omega) (by omega)) 2 rfl gX5_come_X5_isInside rfl ⟨rfl, rfl⟩ hy_X5_isInside_S ⟨Nat.le_of_ble_eq_true rfl, Nat.le_of_ble_eq_true rfl⟩ rfl (Nat.le_of_ble_eq_true rfl) dX5_come_2 ?_
  refine v_if_ne X (tgt := 18) dX5_come_5 (by decide) (fun _ => ?_) (fun q => absurd q (by decide))
  refine v_iload_n X 1 dX5_come_18 rfl rfl ?_
  refine v_if_lt X (tgt := 52) dX5_come_19 (by decide) (fun c_19 => ?_) (fun c_19 => ?_)
  ·
    exact absurd c_19 hg.1
  ·
    refine v_iload_n X 1 dX5_come_22 rfl rfl ?_
    refine v_iconst (v := 1) X (by decide) dX5_come_23 ?_
    refine v_icmp_gt X (tgt := 52) dX5_come_24 (by decide) (fun c_24 => ?_) (fun c_24 => ?_)
    ·
      exact absurd c_24 hg.2.1
    ·
      refine v_iload X 4 dX5_come_27 rfl ?_
      refine v_iconst (v := 1) X (by decide) dX5_come_29 ?_
      refine v_icmp_lt X (tgt := 52) dX5_come_30 (by decide) (fun c_30 => ?_) (fun c_30 => ?_)
      ·
        exact absurd c_30 hg.2.2.1
      ·
        refine v_iload X 4 dX5_come_33 rfl ?_
        refine v_bipush (v := 9) X (by decide) dX5_come_35 ?_
        refine v_icmp_gt X (tgt := 52) dX5_come_37 (by decide) (fun c_37 => ?_) (fun c_37 => ?_)
        ·
          exact absurd c_37 hg.2.2.2.1
        ·
          refine v_iload X 5 dX5_come_40 rfl ?_
          refine v_iconst (v := 1) X (by decide) dX5_come_42 ?_
          refine v_icmp_lt X (tgt := 52) dX5_come_43 (by decide) (fun c_43 => ?_) (fun c_43 => ?_)
          ·
            exact absurd c_43 hg.2.2.2.2.1
          ·
            refine v_iload X 5 dX5_come_46 rfl ?_
            refine v_iconst (v := 5) X (by decide) dX5_come_48 ?_
            refine v_icmp_le X (tgt := 62) dX5_come_49 (by decide) (fun c_49 => ?_) (fun c_49 => ?_)
            ·
              refine v_iload_n X 2 dX5_come_62 rfl rfl ?_
              refine v_iload_n X 3 dX5_come_63 rfl rfl ?_
              refine v_callSIf X [.int (nI a), .int (nI b)] (c_X5_cellAt l G cI cZ cT o S a b (by omega) (by omega)) 2 rfl gX5_come_X5_cellAt rfl ⟨rfl, rfl⟩ hy_X5_cellAt_S ⟨Nat.le_of_ble_eq_true rfl, Nat.le_of_ble_eq_true rfl⟩ rfl (Nat.le_of_ble_eq_true rfl) dX5_come_64 ?_
              refine v_istore (lo' := [(6, .int (nI (12 * b + a))), (0, .ref (o + 0)), (1, .int sd), (2, .int (nI a)), (3, .int (nI b)), (4, .int hh), (5, .int kk)]) X dX5_come_67 (by decide) rfl ?_
              refine v_aload_n X 1 dX5_come_69 rfl rfl ?_
              refine v_getX X 3 (by decide) hi_X5_come_X5 hl_X5_come_27 rfl (v := .ref (o + pS 0)) rfl dX5_come_70 ?_
              refine v_getS X (by omega) 2 (by decide) hi_X5_come_X1 hl_X5_come_77 rfl (v := .int (S 0 12 0)) rfl dX5_come_73 ?_
              refine v_top (y := nI 0) (en) ?_
              refine v_bipush (v := 8) X (by decide) dX5_come_76 ?_
              refine v_ncmp_ge X 0 8 rfl rfl (by omega) (by omega) (tgt := 96) dX5_come_78 (by decide) (fun c_78 => ?_) (fun c_78 => ?_)
              ·
                exact absurd c_78 (by omega)
              ·
                refine v_aload_n X 1 dX5_come_81 rfl rfl ?_
                refine v_getX X 3 (by decide) hi_X5_come_X5 hl_X5_come_27 rfl (v := .ref (o + pS 0)) rfl dX5_come_82 ?_
                refine v_getS X (by omega) 0 (by decide) hi_X5_come_X1 hl_X5_come_64 rfl (v := .ref (o + pG 0)) rfl dX5_come_85 ?_
                refine v_iload X 0 dX5_come_88 rfl ?_
                refine v_callVIf X [.int (nI (12 * b + a))] (pG 0) (pG_lt (by omega)) (c_X0_isTunnel l G cI cZ cT o S 0 (12 * b + a) (by omega) (by omega)) (zc_G cI cZ cT o _ (by omega)) (C := RX0) (T := TX0) (N := 12) rfl 1 rfl gX5_come_X0_isTunnel rfl ⟨rfl, rfl⟩ hy_X0_isTunnel_V ⟨Nat.le_of_ble_eq_true rfl, Nat.le_of_ble_eq_true rfl⟩ rfl (Nat.le_of_ble_eq_true rfl) dX5_come_90 ?_
                refine v_top (y := 0) (if_neg (by rw [hu]; decide)) ?_
                refine v_if_ne X (tgt := 106) dX5_come_93 (by decide) (fun q => absurd q (by decide)) (fun _ => ?_)
                exact x_throw hl9 X hE9 ht9 (text := "no room for a team") (is := 115) (by simp [x_cast]) xf_ISE (by simp [x_strs]) xm_X5_come_ISE xb_ISE xg_ISE dX5_come_96 dX5_come_99 dX5_come_100 dX5_come_102 dX5_come_105 (Nat.le_of_ble_eq_true rfl) (Nat.le_of_ble_eq_true rfl) (Nat.le_of_ble_eq_true rfl) (Nat.le_of_ble_eq_true rfl)
            ·
              exact absurd c_49 hg.2.2.2.2.2
theorem xm_X5_order_IOB : ∀ w ∈ Cond.classLink RX5 84 "java/lang/IndexOutOfBoundsException" :: Cond.initialized "java/lang/IndexOutOfBoundsException" :: (vx_atS RX5 88 "java/lang/IndexOutOfBoundsException" ["java/lang/RuntimeException", "java/lang/Exception"]).filter goodWord, w ∈ wsX5_order := fun w hw => by
  rcases List.mem_cons.mp hw with rfl | hw
  · decide +kernel
  rcases List.mem_cons.mp hw with rfl | hw
  · decide +kernel
  first
    | exact List.mem_cons_of_mem _ (List.mem_append_right _ hw)
    | exact List.mem_cons_of_mem _ (List.mem_append_left _ (List.mem_append_right _ hw))
    | exact List.mem_cons_of_mem _ (List.mem_append_left _ (List.mem_append_left _ (List.mem_append_right _ hw)))
set_option maxRecDepth 100000 in
set_option maxHeartbeats 4000000 in
theorem t_X5_order (l : Launch) (hl9 : l.stackTraces = false) (G : va_G) (cI cZ cT : ClassId) (o : Nat) (S : zS) (t a b d : Int32) (en : S 0 12 0 = nI 0) : zX l G cI cZ cT o yX5_order wsX5_order { frames := 6, cells := 1, slots := 6, locals := 82 } [.ref (o + 0), .int t, .int a, .int b, .int d] S "java/lang/IndexOutOfBoundsException" := by
  refine z_ofX (cc := cX5_order) (maxL := 6) (by decide) rfl (by simp [lg_sl, Value.category]) ?_
  intro p9 e9 s9 m9 a9 b9 h9 c9 X hE9 ht9
  refine v_lo [0, 1, 2, 3, 4] (lo' := [(0, .ref (o + 0)), (1, .int t), (2, .int a), (3, .int b), (4, .int d)]) rfl ?_
  refine v_aload_n X 0 dX5_order_0 rfl rfl ?_
  refine v_getX X 3 (by decide) hi_X5_order_X5 hl_X5_order_27 rfl (v := .ref (o + pS 0)) rfl dX5_order_1 ?_
  refine v_iload_n X 1 dX5_order_4 rfl rfl ?_
  refine v_callVIf X [.int t] (pS 0) (pS_lt (by omega)) (c_X1_hasTeam l G cI cZ cT o S 0 t (by omega)) (zc_S cI cZ cT o _ (by omega)) (C := RX1) (T := TX1) (N := 4) rfl 1 rfl gX5_order_X1_hasTeam rfl ⟨rfl, rfl⟩ hy_X1_hasTeam_V ⟨Nat.le_of_ble_eq_true rfl, Nat.le_of_ble_eq_true rfl⟩ rfl (Nat.le_of_ble_eq_true rfl) dX5_order_5 ?_
  refine v_top (y := 0) (hasTeam_0 en t) ?_
  refine v_if_ne X (tgt := 21) dX5_order_8 (by decide) (fun q => absurd q (by decide)) (fun _ => ?_)
  exact x_throw hl9 X hE9 ht9 (text := "no such team") (is := 130) (by simp [x_cast]) xf_IOB (by simp [x_strs]) xm_X5_order_IOB xb_IOB xg_IOB dX5_order_11 dX5_order_14 dX5_order_15 dX5_order_17 dX5_order_20 (Nat.le_of_ble_eq_true rfl) (Nat.le_of_ble_eq_true rfl) (Nat.le_of_ble_eq_true rfl) (Nat.le_of_ble_eq_true rfl)
theorem hi_X5_clear_X5 : ∀ w ∈ wsX50, w ∈ wsX5_clear := by decide +kernel
theorem hl_X5_clear_27 : Cond.fieldLink RX5 27 RX5 (TX5 3).2.1 (TX5 3).2.2.1 ∈ wsX5_clear := by decide +kernel
theorem xm_X5_clear_IOB : ∀ w ∈ Cond.classLink RX5 84 "java/lang/IndexOutOfBoundsException" :: Cond.initialized "java/lang/IndexOutOfBoundsException" :: (vx_atS RX5 88 "java/lang/IndexOutOfBoundsException" ["java/lang/RuntimeException", "java/lang/Exception"]).filter goodWord, w ∈ wsX5_clear := fun w hw => by
  rcases List.mem_cons.mp hw with rfl | hw
  · decide +kernel
  rcases List.mem_cons.mp hw with rfl | hw
  · decide +kernel
  first
    | exact List.mem_cons_of_mem _ (List.mem_append_right _ hw)
    | exact List.mem_cons_of_mem _ (List.mem_append_left _ (List.mem_append_right _ hw))
    | exact List.mem_cons_of_mem _ (List.mem_append_left _ (List.mem_append_left _ (List.mem_append_right _ hw)))
set_option maxRecDepth 100000 in
set_option maxHeartbeats 4000000 in
theorem t_X5_clear (l : Launch) (hl9 : l.stackTraces = false) (G : va_G) (cI cZ cT : ClassId) (o : Nat) (S : zS) (t : Int32) (en : S 0 12 0 = nI 0) : zX l G cI cZ cT o yX5_clear wsX5_clear { frames := 6, cells := 1, slots := 6, locals := 82 } [.ref (o + 0), .int t] S "java/lang/IndexOutOfBoundsException" := by
  refine z_ofX (cc := cX5_clear) (maxL := 3) (by decide) rfl (by simp [lg_sl, Value.category]) ?_
  intro p9 e9 s9 m9 a9 b9 h9 c9 X hE9 ht9
  refine v_lo [0, 1] (lo' := [(0, .ref (o + 0)), (1, .int t)]) rfl ?_
  refine v_aload_n X 0 dX5_clear_0 rfl rfl ?_
  refine v_getX X 3 (by decide) hi_X5_clear_X5 hl_X5_clear_27 rfl (v := .ref (o + pS 0)) rfl dX5_clear_1 ?_
  refine v_iload_n X 1 dX5_clear_4 rfl rfl ?_
  refine v_callVIf X [.int t] (pS 0) (pS_lt (by omega)) (c_X1_hasTeam l G cI cZ cT o S 0 t (by omega)) (zc_S cI cZ cT o _ (by omega)) (C := RX1) (T := TX1) (N := 4) rfl 1 rfl gX5_clear_X1_hasTeam rfl ⟨rfl, rfl⟩ hy_X1_hasTeam_V ⟨Nat.le_of_ble_eq_true rfl, Nat.le_of_ble_eq_true rfl⟩ rfl (Nat.le_of_ble_eq_true rfl) dX5_clear_5 ?_
  refine v_top (y := 0) (hasTeam_0 en t) ?_
  refine v_if_ne X (tgt := 21) dX5_clear_8 (by decide) (fun q => absurd q (by decide)) (fun _ => ?_)
  exact x_throw hl9 X hE9 ht9 (text := "no such team") (is := 130) (by simp [x_cast]) xf_IOB (by simp [x_strs]) xm_X5_clear_IOB xb_IOB xg_IOB dX5_clear_11 dX5_clear_14 dX5_clear_15 dX5_clear_17 dX5_clear_20 (Nat.le_of_ble_eq_true rfl) (Nat.le_of_ble_eq_true rfl) (Nat.le_of_ble_eq_true rfl) (Nat.le_of_ble_eq_true rfl)
theorem xm_X5_team_IOB : ∀ w ∈ Cond.classLink RX5 84 "java/lang/IndexOutOfBoundsException" :: Cond.initialized "java/lang/IndexOutOfBoundsException" :: (vx_atS RX5 88 "java/lang/IndexOutOfBoundsException" ["java/lang/RuntimeException", "java/lang/Exception"]).filter goodWord, w ∈ wsX5_team := fun w hw => by
  rcases List.mem_cons.mp hw with rfl | hw
  · decide +kernel
  rcases List.mem_cons.mp hw with rfl | hw
  · decide +kernel
  first
    | exact List.mem_cons_of_mem _ (List.mem_append_right _ hw)
    | exact List.mem_cons_of_mem _ (List.mem_append_left _ (List.mem_append_right _ hw))
    | exact List.mem_cons_of_mem _ (List.mem_append_left _ (List.mem_append_left _ (List.mem_append_right _ hw)))
set_option maxRecDepth 100000 in
set_option maxHeartbeats 4000000 in
theorem t_X5_team (l : Launch) (hl9 : l.stackTraces = false) (G : va_G) (cI cZ cT : ClassId) (o : Nat) (S : zS) (t k : Int32) (en : S 0 12 0 = nI 0) : zX l G cI cZ cT o yX5_team wsX5_team { frames := 6, cells := 1, slots := 6, locals := 82 } [.ref (o + 0), .int t, .int k] S "java/lang/IndexOutOfBoundsException" := by
  refine z_ofX (cc := cX5_team) (maxL := 3) (by decide) rfl (by simp [lg_sl, Value.category]) ?_
  intro p9 e9 s9 m9 a9 b9 h9 c9 X hE9 ht9
  refine v_lo [0, 1, 2] (lo' := [(0, .ref (o + 0)), (1, .int t), (2, .int k)]) rfl ?_
  refine v_aload_n X 0 dX5_team_0 rfl rfl ?_
  refine v_getX X 3 (by decide) hi_X5_team_X5 hl_X5_team_27 rfl (v := .ref (o + pS 0)) rfl dX5_team_1 ?_
  refine v_iload_n X 1 dX5_team_4 rfl rfl ?_
  refine v_callVIf X [.int t] (pS 0) (pS_lt (by omega)) (c_X1_hasTeam l G cI cZ cT o S 0 t (by omega)) (zc_S cI cZ cT o _ (by omega)) (C := RX1) (T := TX1) (N := 4) rfl 1 rfl gX5_team_X1_hasTeam rfl ⟨rfl, rfl⟩ hy_X1_hasTeam_V ⟨Nat.le_of_ble_eq_true rfl, Nat.le_of_ble_eq_true rfl⟩ rfl (Nat.le_of_ble_eq_true rfl) dX5_team_5 ?_
  refine v_top (y := 0) (hasTeam_0 en t) ?_
  refine v_if_eq X (tgt := 21) dX5_team_8 (by decide) (fun _ => ?_) (fun q => absurd q (by decide))
  exact x_throw hl9 X hE9 ht9 (text := "no such team or value") (is := 147) (by simp [x_cast]) xf_IOB (by simp [x_strs]) xm_X5_team_IOB xb_IOB xg_IOB dX5_team_21 dX5_team_24 dX5_team_25 dX5_team_27 dX5_team_30 (Nat.le_of_ble_eq_true rfl) (Nat.le_of_ble_eq_true rfl) (Nat.le_of_ble_eq_true rfl) (Nat.le_of_ble_eq_true rfl)
theorem xm_X5_heard_IOB : ∀ w ∈ Cond.classLink RX5 84 "java/lang/IndexOutOfBoundsException" :: Cond.initialized "java/lang/IndexOutOfBoundsException" :: (vx_atS RX5 88 "java/lang/IndexOutOfBoundsException" ["java/lang/RuntimeException", "java/lang/Exception"]).filter goodWord, w ∈ wsX5_heard := fun w hw => by
  rcases List.mem_cons.mp hw with rfl | hw
  · decide +kernel
  rcases List.mem_cons.mp hw with rfl | hw
  · decide +kernel
  first
    | exact List.mem_cons_of_mem _ (List.mem_append_right _ hw)
    | exact List.mem_cons_of_mem _ (List.mem_append_left _ (List.mem_append_right _ hw))
    | exact List.mem_cons_of_mem _ (List.mem_append_left _ (List.mem_append_left _ (List.mem_append_right _ hw)))
set_option maxRecDepth 100000 in
set_option maxHeartbeats 4000000 in
theorem t_X5_heard (l : Launch) (hl9 : l.stackTraces = false) (G : va_G) (cI cZ cT : ClassId) (o : Nat) (S : zS) (t k : Int32) (en : S 0 12 0 = nI 0) : zX l G cI cZ cT o yX5_heard wsX5_heard { frames := 6, cells := 1, slots := 6, locals := 82 } [.ref (o + 0), .int t, .int k] S "java/lang/IndexOutOfBoundsException" := by
  refine z_ofX (cc := cX5_heard) (maxL := 3) (by decide) rfl (by simp [lg_sl, Value.category]) ?_
  intro p9 e9 s9 m9 a9 b9 h9 c9 X hE9 ht9
  refine v_lo [0, 1, 2] (lo' := [(0, .ref (o + 0)), (1, .int t), (2, .int k)]) rfl ?_
  refine v_aload_n X 0 dX5_heard_0 rfl rfl ?_
  refine v_getX X 3 (by decide) hi_X5_heard_X5 hl_X5_heard_27 rfl (v := .ref (o + pS 0)) rfl dX5_heard_1 ?_
  refine v_iload_n X 1 dX5_heard_4 rfl rfl ?_
  refine v_callVIf X [.int t] (pS 0) (pS_lt (by omega)) (c_X1_hasTeam l G cI cZ cT o S 0 t (by omega)) (zc_S cI cZ cT o _ (by omega)) (C := RX1) (T := TX1) (N := 4) rfl 1 rfl gX5_heard_X1_hasTeam rfl ⟨rfl, rfl⟩ hy_X1_hasTeam_V ⟨Nat.le_of_ble_eq_true rfl, Nat.le_of_ble_eq_true rfl⟩ rfl (Nat.le_of_ble_eq_true rfl) dX5_heard_5 ?_
  refine v_top (y := 0) (hasTeam_0 en t) ?_
  refine v_if_eq X (tgt := 20) dX5_heard_8 (by decide) (fun _ => ?_) (fun q => absurd q (by decide))
  exact x_throw hl9 X hE9 ht9 (text := "no such team or value") (is := 147) (by simp [x_cast]) xf_IOB (by simp [x_strs]) xm_X5_heard_IOB xb_IOB xg_IOB dX5_heard_20 dX5_heard_23 dX5_heard_24 dX5_heard_26 dX5_heard_29 (Nat.le_of_ble_eq_true rfl) (Nat.le_of_ble_eq_true rfl) (Nat.le_of_ble_eq_true rfl) (Nat.le_of_ble_eq_true rfl)
theorem hi_X5_reach_X5 : ∀ w ∈ wsX50, w ∈ wsX5_reach := by decide +kernel
theorem hl_X5_reach_27 : Cond.fieldLink RX5 27 RX5 (TX5 3).2.1 (TX5 3).2.2.1 ∈ wsX5_reach := by decide +kernel
theorem xm_X5_reach_IOB : ∀ w ∈ Cond.classLink RX5 84 "java/lang/IndexOutOfBoundsException" :: Cond.initialized "java/lang/IndexOutOfBoundsException" :: (vx_atS RX5 88 "java/lang/IndexOutOfBoundsException" ["java/lang/RuntimeException", "java/lang/Exception"]).filter goodWord, w ∈ wsX5_reach := fun w hw => by
  rcases List.mem_cons.mp hw with rfl | hw
  · decide +kernel
  rcases List.mem_cons.mp hw with rfl | hw
  · decide +kernel
  first
    | exact List.mem_cons_of_mem _ (List.mem_append_right _ hw)
    | exact List.mem_cons_of_mem _ (List.mem_append_left _ (List.mem_append_right _ hw))
    | exact List.mem_cons_of_mem _ (List.mem_append_left _ (List.mem_append_left _ (List.mem_append_right _ hw)))
set_option maxRecDepth 100000 in
set_option maxHeartbeats 4000000 in
theorem t_X5_reach (l : Launch) (hl9 : l.stackTraces = false) (G : va_G) (cI cZ cT : ClassId) (o : Nat) (S : zS) (t x y : Int32) (en : S 0 12 0 = nI 0) : zX l G cI cZ cT o yX5_reach wsX5_reach { frames := 6, cells := 1, slots := 6, locals := 94 } [.ref (o + 0), .int t, .int x, .int y] S "java/lang/IndexOutOfBoundsException" := by
  refine z_ofX (cc := cX5_reach) (maxL := 5) (by decide) rfl (by simp [lg_sl, Value.category]) ?_
  intro p9 e9 s9 m9 a9 b9 h9 c9 X hE9 ht9
  refine v_lo [0, 1, 2, 3] (lo' := [(0, .ref (o + 0)), (1, .int t), (2, .int x), (3, .int y)]) rfl ?_
  refine v_aload_n X 0 dX5_reach_0 rfl rfl ?_
  refine v_getX X 3 (by decide) hi_X5_reach_X5 hl_X5_reach_27 rfl (v := .ref (o + pS 0)) rfl dX5_reach_1 ?_
  refine v_iload_n X 1 dX5_reach_4 rfl rfl ?_
  refine v_callVIf X [.int t] (pS 0) (pS_lt (by omega)) (c_X1_hasTeam l G cI cZ cT o S 0 t (by omega)) (zc_S cI cZ cT o _ (by omega)) (C := RX1) (T := TX1) (N := 4) rfl 1 rfl gX5_reach_X1_hasTeam rfl ⟨rfl, rfl⟩ hy_X1_hasTeam_V ⟨Nat.le_of_ble_eq_true rfl, Nat.le_of_ble_eq_true rfl⟩ rfl (Nat.le_of_ble_eq_true rfl) dX5_reach_5 ?_
  refine v_top (y := 0) (hasTeam_0 en t) ?_
  refine v_if_eq X (tgt := 19) dX5_reach_8 (by decide) (fun _ => ?_) (fun q => absurd q (by decide))
  exact x_throw hl9 X hE9 ht9 (text := "no such team or cell") (is := 175) (by simp [x_cast]) xf_IOB (by simp [x_strs]) xm_X5_reach_IOB xb_IOB xg_IOB dX5_reach_19 dX5_reach_22 dX5_reach_23 dX5_reach_25 dX5_reach_28 (Nat.le_of_ble_eq_true rfl) (Nat.le_of_ble_eq_true rfl) (Nat.le_of_ble_eq_true rfl) (Nat.le_of_ble_eq_true rfl)
theorem xm_X5_target_IOB : ∀ w ∈ Cond.classLink RX5 84 "java/lang/IndexOutOfBoundsException" :: Cond.initialized "java/lang/IndexOutOfBoundsException" :: (vx_atS RX5 88 "java/lang/IndexOutOfBoundsException" ["java/lang/RuntimeException", "java/lang/Exception"]).filter goodWord, w ∈ wsX5_target := fun w hw => by
  rcases List.mem_cons.mp hw with rfl | hw
  · decide +kernel
  rcases List.mem_cons.mp hw with rfl | hw
  · decide +kernel
  first
    | exact List.mem_cons_of_mem _ (List.mem_append_right _ hw)
    | exact List.mem_cons_of_mem _ (List.mem_append_left _ (List.mem_append_right _ hw))
    | exact List.mem_cons_of_mem _ (List.mem_append_left _ (List.mem_append_left _ (List.mem_append_right _ hw)))
set_option maxRecDepth 100000 in
set_option maxHeartbeats 4000000 in
theorem t_X5_target (l : Launch) (hl9 : l.stackTraces = false) (G : va_G) (cI cZ cT : ClassId) (o : Nat) (S : zS) (t : Int32) (en : S 0 12 0 = nI 0) : zX l G cI cZ cT o yX5_target wsX5_target { frames := 6, cells := 1, slots := 6, locals := 94 } [.ref (o + 0), .int t] S "java/lang/IndexOutOfBoundsException" := by
  refine z_ofX (cc := cX5_target) (maxL := 3) (by decide) rfl (by simp [lg_sl, Value.category]) ?_
  intro p9 e9 s9 m9 a9 b9 h9 c9 X hE9 ht9
  refine v_lo [0, 1] (lo' := [(0, .ref (o + 0)), (1, .int t)]) rfl ?_
  refine v_aload_n X 0 dX5_target_0 rfl rfl ?_
  refine v_getX X 3 (by decide) hi_X5_target_X5 hl_X5_target_27 rfl (v := .ref (o + pS 0)) rfl dX5_target_1 ?_
  refine v_iload_n X 1 dX5_target_4 rfl rfl ?_
  refine v_callVIf X [.int t] (pS 0) (pS_lt (by omega)) (c_X1_hasTeam l G cI cZ cT o S 0 t (by omega)) (zc_S cI cZ cT o _ (by omega)) (C := RX1) (T := TX1) (N := 4) rfl 1 rfl gX5_target_X1_hasTeam rfl ⟨rfl, rfl⟩ hy_X1_hasTeam_V ⟨Nat.le_of_ble_eq_true rfl, Nat.le_of_ble_eq_true rfl⟩ rfl (Nat.le_of_ble_eq_true rfl) dX5_target_5 ?_
  refine v_top (y := 0) (hasTeam_0 en t) ?_
  refine v_if_ne X (tgt := 21) dX5_target_8 (by decide) (fun q => absurd q (by decide)) (fun _ => ?_)
  exact x_throw hl9 X hE9 ht9 (text := "no such team") (is := 130) (by simp [x_cast]) xf_IOB (by simp [x_strs]) xm_X5_target_IOB xb_IOB xg_IOB dX5_target_11 dX5_target_14 dX5_target_15 dX5_target_17 dX5_target_20 (Nat.le_of_ble_eq_true rfl) (Nat.le_of_ble_eq_true rfl) (Nat.le_of_ble_eq_true rfl) (Nat.le_of_ble_eq_true rfl)
theorem hi_X5_lasts_X5 : ∀ w ∈ wsX50, w ∈ wsX5_lasts := by decide +kernel
theorem hl_X5_lasts_27 : Cond.fieldLink RX5 27 RX5 (TX5 3).2.1 (TX5 3).2.2.1 ∈ wsX5_lasts := by decide +kernel
theorem xm_X5_lasts_IOB : ∀ w ∈ Cond.classLink RX5 84 "java/lang/IndexOutOfBoundsException" :: Cond.initialized "java/lang/IndexOutOfBoundsException" :: (vx_atS RX5 88 "java/lang/IndexOutOfBoundsException" ["java/lang/RuntimeException", "java/lang/Exception"]).filter goodWord, w ∈ wsX5_lasts := fun w hw => by
  rcases List.mem_cons.mp hw with rfl | hw
  · decide +kernel
  rcases List.mem_cons.mp hw with rfl | hw
  · decide +kernel
  first
    | exact List.mem_cons_of_mem _ (List.mem_append_right _ hw)
    | exact List.mem_cons_of_mem _ (List.mem_append_left _ (List.mem_append_right _ hw))
    | exact List.mem_cons_of_mem _ (List.mem_append_left _ (List.mem_append_left _ (List.mem_append_right _ hw)))
set_option maxRecDepth 100000 in
set_option maxHeartbeats 4000000 in
theorem t_X5_lasts (l : Launch) (hl9 : l.stackTraces = false) (G : va_G) (cI cZ cT : ClassId) (o : Nat) (S : zS) (t : Int32) (en : S 0 12 0 = nI 0) : zX l G cI cZ cT o yX5_lasts wsX5_lasts { frames := 6, cells := 1, slots := 6, locals := 135 } [.ref (o + 0), .int t] S "java/lang/IndexOutOfBoundsException" := by
  refine z_ofX (cc := cX5_lasts) (maxL := 3) (by decide) rfl (by simp [lg_sl, Value.category]) ?_
  intro p9 e9 s9 m9 a9 b9 h9 c9 X hE9 ht9
  refine v_lo [0, 1] (lo' := [(0, .ref (o + 0)), (1, .int t)]) rfl ?_
  refine v_aload_n X 0 dX5_lasts_0 rfl rfl ?_
  refine v_getX X 3 (by decide) hi_X5_lasts_X5 hl_X5_lasts_27 rfl (v := .ref (o + pS 0)) rfl dX5_lasts_1 ?_
  refine v_iload_n X 1 dX5_lasts_4 rfl rfl ?_
  refine v_callVIf X [.int t] (pS 0) (pS_lt (by omega)) (c_X1_hasTeam l G cI cZ cT o S 0 t (by omega)) (zc_S cI cZ cT o _ (by omega)) (C := RX1) (T := TX1) (N := 4) rfl 1 rfl gX5_lasts_X1_hasTeam rfl ⟨rfl, rfl⟩ hy_X1_hasTeam_V ⟨Nat.le_of_ble_eq_true rfl, Nat.le_of_ble_eq_true rfl⟩ rfl (Nat.le_of_ble_eq_true rfl) dX5_lasts_5 ?_
  refine v_top (y := 0) (hasTeam_0 en t) ?_
  refine v_if_ne X (tgt := 21) dX5_lasts_8 (by decide) (fun q => absurd q (by decide)) (fun _ => ?_)
  exact x_throw hl9 X hE9 ht9 (text := "no such team") (is := 130) (by simp [x_cast]) xf_IOB (by simp [x_strs]) xm_X5_lasts_IOB xb_IOB xg_IOB dX5_lasts_11 dX5_lasts_14 dX5_lasts_15 dX5_lasts_17 dX5_lasts_20 (Nat.le_of_ble_eq_true rfl) (Nat.le_of_ble_eq_true rfl) (Nat.le_of_ble_eq_true rfl) (Nat.le_of_ble_eq_true rfl)
theorem hi_X5_advise_X5 : ∀ w ∈ wsX50, w ∈ wsX5_advise := by decide +kernel
theorem hl_X5_advise_27 : Cond.fieldLink RX5 27 RX5 (TX5 3).2.1 (TX5 3).2.2.1 ∈ wsX5_advise := by decide +kernel
theorem xm_X5_advise_IOB : ∀ w ∈ Cond.classLink RX5 84 "java/lang/IndexOutOfBoundsException" :: Cond.initialized "java/lang/IndexOutOfBoundsException" :: (vx_atS RX5 88 "java/lang/IndexOutOfBoundsException" ["java/lang/RuntimeException", "java/lang/Exception"]).filter goodWord, w ∈ wsX5_advise := fun w hw => by
  rcases List.mem_cons.mp hw with rfl | hw
  · decide +kernel
  rcases List.mem_cons.mp hw with rfl | hw
  · decide +kernel
  first
    | exact List.mem_cons_of_mem _ (List.mem_append_right _ hw)
    | exact List.mem_cons_of_mem _ (List.mem_append_left _ (List.mem_append_right _ hw))
    | exact List.mem_cons_of_mem _ (List.mem_append_left _ (List.mem_append_left _ (List.mem_append_right _ hw)))
set_option maxRecDepth 100000 in
set_option maxHeartbeats 4000000 in
theorem t_X5_advise (l : Launch) (hl9 : l.stackTraces = false) (G : va_G) (cI cZ cT : ClassId) (o : Nat) (S : zS) (t h : Int32) (en : S 0 12 0 = nI 0) : zX l G cI cZ cT o yX5_advise wsX5_advise { frames := 7, cells := 1, slots := 6, locals := 158 } [.ref (o + 0), .int t, .int h] S "java/lang/IndexOutOfBoundsException" := by
  refine z_ofX (cc := cX5_advise) (maxL := 7) (by decide) rfl (by simp [lg_sl, Value.category]) ?_
  intro p9 e9 s9 m9 a9 b9 h9 c9 X hE9 ht9
  refine v_lo [0, 1, 2] (lo' := [(0, .ref (o + 0)), (1, .int t), (2, .int h)]) rfl ?_
  refine v_aload_n X 0 dX5_advise_0 rfl rfl ?_
  refine v_getX X 3 (by decide) hi_X5_advise_X5 hl_X5_advise_27 rfl (v := .ref (o + pS 0)) rfl dX5_advise_1 ?_
  refine v_iload_n X 1 dX5_advise_4 rfl rfl ?_
  refine v_callVIf X [.int t] (pS 0) (pS_lt (by omega)) (c_X1_hasTeam l G cI cZ cT o S 0 t (by omega)) (zc_S cI cZ cT o _ (by omega)) (C := RX1) (T := TX1) (N := 4) rfl 1 rfl gX5_advise_X1_hasTeam rfl ⟨rfl, rfl⟩ hy_X1_hasTeam_V ⟨Nat.le_of_ble_eq_true rfl, Nat.le_of_ble_eq_true rfl⟩ rfl (Nat.le_of_ble_eq_true rfl) dX5_advise_5 ?_
  refine v_top (y := 0) (hasTeam_0 en t) ?_
  refine v_if_ne X (tgt := 21) dX5_advise_8 (by decide) (fun q => absurd q (by decide)) (fun _ => ?_)
  exact x_throw hl9 X hE9 ht9 (text := "no such team") (is := 130) (by simp [x_cast]) xf_IOB (by simp [x_strs]) xm_X5_advise_IOB xb_IOB xg_IOB dX5_advise_11 dX5_advise_14 dX5_advise_15 dX5_advise_17 dX5_advise_20 (Nat.le_of_ble_eq_true rfl) (Nat.le_of_ble_eq_true rfl) (Nat.le_of_ble_eq_true rfl) (Nat.le_of_ble_eq_true rfl)
theorem xm_X5_pass_IAE : ∀ w ∈ Cond.classLink RX5 55 "java/lang/IllegalArgumentException" :: Cond.initialized "java/lang/IllegalArgumentException" :: (vx_atS RX5 59 "java/lang/IllegalArgumentException" ["java/lang/RuntimeException", "java/lang/Exception"]).filter goodWord, w ∈ wsX5_pass := fun w hw => by
  rcases List.mem_cons.mp hw with rfl | hw
  · decide +kernel
  rcases List.mem_cons.mp hw with rfl | hw
  · decide +kernel
  first
    | exact List.mem_cons_of_mem _ (List.mem_append_right _ hw)
    | exact List.mem_cons_of_mem _ (List.mem_append_left _ (List.mem_append_right _ hw))
    | exact List.mem_cons_of_mem _ (List.mem_append_left _ (List.mem_append_left _ (List.mem_append_right _ hw)))
set_option maxRecDepth 100000 in
set_option maxHeartbeats 4000000 in
theorem t_X5_pass (l : Launch) (hl9 : l.stackTraces = false) (G : va_G) (cI cZ cT : ClassId) (o : Nat) (S : zS) (h : Int32) (hb : ¬ (¬ h < 1 ∧ ¬ 200 < h)) : zX l G cI cZ cT o yX5_pass wsX5_pass { frames := 6, cells := 1, slots := 6, locals := 135 } [.ref (o + 0), .int h] S "java/lang/IllegalArgumentException" := by
  refine z_ofX (cc := cX5_pass) (maxL := 3) (by decide) rfl (by simp [lg_sl, Value.category]) ?_
  intro p9 e9 s9 m9 a9 b9 h9 c9 X hE9 ht9
  refine v_lo [0, 1] (lo' := [(0, .ref (o + 0)), (1, .int h)]) rfl ?_
  refine v_iload_n X 1 dX5_pass_0 rfl rfl ?_
  refine v_iconst (v := 1) X (by decide) dX5_pass_1 ?_
  refine v_icmp_lt X (tgt := 12) dX5_pass_2 (by decide) (fun c_2 => ?_) (fun c_2 => ?_)
  ·
    exact x_throw hl9 X hE9 ht9 (text := "not so many hours") (is := 155) (by simp [x_cast]) xf_IAE (by simp [x_strs]) xm_X5_pass_IAE xb_IAE xg_IAE dX5_pass_12 dX5_pass_15 dX5_pass_16 dX5_pass_18 dX5_pass_21 (Nat.le_of_ble_eq_true rfl) (Nat.le_of_ble_eq_true rfl) (Nat.le_of_ble_eq_true rfl) (Nat.le_of_ble_eq_true rfl)
  ·
    refine v_iload_n X 1 dX5_pass_5 rfl rfl ?_
    refine v_sipush (v := 200) X (by decide) dX5_pass_6 ?_
    refine v_icmp_le X (tgt := 22) dX5_pass_9 (by decide) (fun c_9 => ?_) (fun c_9 => ?_)
    ·
      exact absurd ⟨c_2, c_9⟩ hb
    ·
      exact x_throw hl9 X hE9 ht9 (text := "not so many hours") (is := 155) (by simp [x_cast]) xf_IAE (by simp [x_strs]) xm_X5_pass_IAE xb_IAE xg_IAE dX5_pass_12 dX5_pass_15 dX5_pass_16 dX5_pass_18 dX5_pass_21 (Nat.le_of_ble_eq_true rfl) (Nat.le_of_ble_eq_true rfl) (Nat.le_of_ble_eq_true rfl) (Nat.le_of_ble_eq_true rfl)
theorem xm_X5_count_IOB : ∀ w ∈ Cond.classLink RX5 84 "java/lang/IndexOutOfBoundsException" :: Cond.initialized "java/lang/IndexOutOfBoundsException" :: (vx_atS RX5 88 "java/lang/IndexOutOfBoundsException" ["java/lang/RuntimeException", "java/lang/Exception"]).filter goodWord, w ∈ wsX5_count := fun w hw => by
  rcases List.mem_cons.mp hw with rfl | hw
  · decide +kernel
  rcases List.mem_cons.mp hw with rfl | hw
  · decide +kernel
  first
    | exact List.mem_cons_of_mem _ (List.mem_append_right _ hw)
    | exact List.mem_cons_of_mem _ (List.mem_append_left _ (List.mem_append_right _ hw))
    | exact List.mem_cons_of_mem _ (List.mem_append_left _ (List.mem_append_left _ (List.mem_append_right _ hw)))
set_option maxRecDepth 100000 in
set_option maxHeartbeats 4000000 in
theorem t_X5_count (l : Launch) (hl9 : l.stackTraces = false) (G : va_G) (cI cZ cT : ClassId) (o : Nat) (S : zS) (k : Int32) (hb : ¬ (¬ k < 0 ∧ k < 12)) : zX l G cI cZ cT o yX5_count wsX5_count { frames := 6, cells := 1, slots := 6, locals := 82 } [.ref (o + 0), .int k] S "java/lang/IndexOutOfBoundsException" := by
  refine z_ofX (cc := cX5_count) (maxL := 2) (by decide) rfl (by simp [lg_sl, Value.category]) ?_
  intro p9 e9 s9 m9 a9 b9 h9 c9 X hE9 ht9
  refine v_lo [0, 1] (lo' := [(0, .ref (o + 0)), (1, .int k)]) rfl ?_
  refine v_iload_n X 1 dX5_count_0 rfl rfl ?_
  refine v_if_lt X (tgt := 10) dX5_count_1 (by decide) (fun c_1 => ?_) (fun c_1 => ?_)
  ·
    exact x_throw hl9 X hE9 ht9 (text := "no such count") (is := 163) (by simp [x_cast]) xf_IOB (by simp [x_strs]) xm_X5_count_IOB xb_IOB xg_IOB dX5_count_10 dX5_count_13 dX5_count_14 dX5_count_16 dX5_count_19 (Nat.le_of_ble_eq_true rfl) (Nat.le_of_ble_eq_true rfl) (Nat.le_of_ble_eq_true rfl) (Nat.le_of_ble_eq_true rfl)
  ·
    refine v_iload_n X 1 dX5_count_4 rfl rfl ?_
    refine v_bipush (v := 12) X (by decide) dX5_count_5 ?_
    refine v_icmp_lt X (tgt := 20) dX5_count_7 (by decide) (fun c_7 => ?_) (fun c_7 => ?_)
    ·
      exact absurd ⟨c_1, c_7⟩ hb
    ·
      exact x_throw hl9 X hE9 ht9 (text := "no such count") (is := 163) (by simp [x_cast]) xf_IOB (by simp [x_strs]) xm_X5_count_IOB xb_IOB xg_IOB dX5_count_10 dX5_count_13 dX5_count_14 dX5_count_16 dX5_count_19 (Nat.le_of_ble_eq_true rfl) (Nat.le_of_ble_eq_true rfl) (Nat.le_of_ble_eq_true rfl) (Nat.le_of_ble_eq_true rfl)
theorem xm_X5_way_IOB : ∀ w ∈ Cond.classLink RX5 84 "java/lang/IndexOutOfBoundsException" :: Cond.initialized "java/lang/IndexOutOfBoundsException" :: (vx_atS RX5 88 "java/lang/IndexOutOfBoundsException" ["java/lang/RuntimeException", "java/lang/Exception"]).filter goodWord, w ∈ wsX5_way := fun w hw => by
  rcases List.mem_cons.mp hw with rfl | hw
  · decide +kernel
  rcases List.mem_cons.mp hw with rfl | hw
  · decide +kernel
  first
    | exact List.mem_cons_of_mem _ (List.mem_append_right _ hw)
    | exact List.mem_cons_of_mem _ (List.mem_append_left _ (List.mem_append_right _ hw))
    | exact List.mem_cons_of_mem _ (List.mem_append_left _ (List.mem_append_left _ (List.mem_append_right _ hw)))
set_option maxRecDepth 100000 in
set_option maxHeartbeats 4000000 in
theorem t_X5_way (l : Launch) (hl9 : l.stackTraces = false) (G : va_G) (cI cZ cT : ClassId) (o : Nat) (S : zS) (x y u v : Int32) (hb : ¬ (pin x y ∧ pin u v)) : zX l G cI cZ cT o yX5_way wsX5_way { frames := 6, cells := 1, slots := 6, locals := 94 } [.ref (o + 0), .int x, .int y, .int u, .int v] S "java/lang/IndexOutOfBoundsException" := by
  refine z_ofX (cc := cX5_way) (maxL := 7) (by decide) rfl (by simp [lg_sl, Value.category]) ?_
  intro p9 e9 s9 m9 a9 b9 h9 c9 X hE9 ht9
  refine v_lo [0, 1, 2, 3, 4] (lo' := [(0, .ref (o + 0)), (1, .int x), (2, .int y), (3, .int u), (4, .int v)]) rfl ?_
  refine v_iload_n X 1 dX5_way_0 rfl rfl ?_
  refine v_iload_n X 2 dX5_way_1 rfl rfl ?_
  refine v_callSIf X [.int x, .int y] (c_X5_isInsideG l G cI cZ cT o S x y) 2 rfl gX5_way_X5_isInside rfl ⟨rfl, rfl⟩ hy_X5_isInside_S ⟨Nat.le_of_ble_eq_true rfl, Nat.le_of_ble_eq_true rfl⟩ rfl (Nat.le_of_ble_eq_true rfl) dX5_way_2 ?_
  refine v_if_eq X (tgt := 17) dX5_way_5 (by decide) (fun c_5 => ?_) (fun c_5 => ?_)
  ·
    exact x_throw hl9 X hE9 ht9 (text := "no such cell") (is := 86) (by simp [x_cast]) xf_IOB (by simp [x_strs]) xm_X5_way_IOB xb_IOB xg_IOB dX5_way_17 dX5_way_20 dX5_way_21 dX5_way_23 dX5_way_26 (Nat.le_of_ble_eq_true rfl) (Nat.le_of_ble_eq_true rfl) (Nat.le_of_ble_eq_true rfl) (Nat.le_of_ble_eq_true rfl)
  ·
    refine v_iload_n X 3 dX5_way_8 rfl rfl ?_
    refine v_iload X 4 dX5_way_9 rfl ?_
    refine v_callSIf X [.int u, .int v] (c_X5_isInsideG l G cI cZ cT o S u v) 2 rfl gX5_way_X5_isInside rfl ⟨rfl, rfl⟩ hy_X5_isInside_S ⟨Nat.le_of_ble_eq_true rfl, Nat.le_of_ble_eq_true rfl⟩ rfl (Nat.le_of_ble_eq_true rfl) dX5_way_11 ?_
    refine v_if_ne X (tgt := 27) dX5_way_14 (by decide) (fun c_14 => ?_) (fun c_14 => ?_)
    ·
      exact absurd ⟨pin_1 c_5, pin_1 c_14⟩ hb
    ·
      exact x_throw hl9 X hE9 ht9 (text := "no such cell") (is := 86) (by simp [x_cast]) xf_IOB (by simp [x_strs]) xm_X5_way_IOB xb_IOB xg_IOB dX5_way_17 dX5_way_20 dX5_way_21 dX5_way_23 dX5_way_26 (Nat.le_of_ble_eq_true rfl) (Nat.le_of_ble_eq_true rfl) (Nat.le_of_ble_eq_true rfl) (Nat.le_of_ble_eq_true rfl)
theorem xm_X5_foresee_IAE : ∀ w ∈ Cond.classLink RX5 55 "java/lang/IllegalArgumentException" :: Cond.initialized "java/lang/IllegalArgumentException" :: (vx_atS RX5 59 "java/lang/IllegalArgumentException" ["java/lang/RuntimeException", "java/lang/Exception"]).filter goodWord, w ∈ wsX5_foresee := fun w hw => by
  rcases List.mem_cons.mp hw with rfl | hw
  · decide +kernel
  rcases List.mem_cons.mp hw with rfl | hw
  · decide +kernel
  first
    | exact List.mem_cons_of_mem _ (List.mem_append_right _ hw)
    | exact List.mem_cons_of_mem _ (List.mem_append_left _ (List.mem_append_right _ hw))
    | exact List.mem_cons_of_mem _ (List.mem_append_left _ (List.mem_append_left _ (List.mem_append_right _ hw)))
set_option maxRecDepth 100000 in
set_option maxHeartbeats 4000000 in
theorem t_X5_foresee1 (l : Launch) (hl9 : l.stackTraces = false) (G : va_G) (cI cZ cT : ClassId) (o : Nat) (S : zS) (h k : Int32) (hb : ¬ (¬ h < 1 ∧ ¬ 150 < h)) : zX l G cI cZ cT o yX5_foresee wsX5_foresee { frames := 6, cells := 1, slots := 6, locals := 135 } [.ref (o + 0), .int h, .int k] S "java/lang/IllegalArgumentException" := by
  refine z_ofX (cc := cX5_foresee) (maxL := 3) (by decide) rfl (by simp [lg_sl, Value.category]) ?_
  intro p9 e9 s9 m9 a9 b9 h9 c9 X hE9 ht9
  refine v_lo [0, 1, 2] (lo' := [(0, .ref (o + 0)), (1, .int h), (2, .int k)]) rfl ?_
  refine v_iload_n X 1 dX5_foresee_0 rfl rfl ?_
  refine v_iconst (v := 1) X (by decide) dX5_foresee_1 ?_
  refine v_icmp_lt X (tgt := 12) dX5_foresee_2 (by decide) (fun c_2 => ?_) (fun c_2 => ?_)
  ·
    exact x_throw hl9 X hE9 ht9 (text := "not so many hours") (is := 155) (by simp [x_cast]) xf_IAE (by simp [x_strs]) xm_X5_foresee_IAE xb_IAE xg_IAE dX5_foresee_12 dX5_foresee_15 dX5_foresee_16 dX5_foresee_18 dX5_foresee_21 (Nat.le_of_ble_eq_true rfl) (Nat.le_of_ble_eq_true rfl) (Nat.le_of_ble_eq_true rfl) (Nat.le_of_ble_eq_true rfl)
  ·
    refine v_iload_n X 1 dX5_foresee_5 rfl rfl ?_
    refine v_sipush (v := 150) X (by decide) dX5_foresee_6 ?_
    refine v_icmp_le X (tgt := 22) dX5_foresee_9 (by decide) (fun c_9 => ?_) (fun c_9 => ?_)
    ·
      exact absurd ⟨c_2, c_9⟩ hb
    ·
      exact x_throw hl9 X hE9 ht9 (text := "not so many hours") (is := 155) (by simp [x_cast]) xf_IAE (by simp [x_strs]) xm_X5_foresee_IAE xb_IAE xg_IAE dX5_foresee_12 dX5_foresee_15 dX5_foresee_16 dX5_foresee_18 dX5_foresee_21 (Nat.le_of_ble_eq_true rfl) (Nat.le_of_ble_eq_true rfl) (Nat.le_of_ble_eq_true rfl) (Nat.le_of_ble_eq_true rfl)
theorem xm_X5_foresee_IOB : ∀ w ∈ Cond.classLink RX5 84 "java/lang/IndexOutOfBoundsException" :: Cond.initialized "java/lang/IndexOutOfBoundsException" :: (vx_atS RX5 88 "java/lang/IndexOutOfBoundsException" ["java/lang/RuntimeException", "java/lang/Exception"]).filter goodWord, w ∈ wsX5_foresee := fun w hw => by
  rcases List.mem_cons.mp hw with rfl | hw
  · decide +kernel
  rcases List.mem_cons.mp hw with rfl | hw
  · decide +kernel
  first
    | exact List.mem_cons_of_mem _ (List.mem_append_right _ hw)
    | exact List.mem_cons_of_mem _ (List.mem_append_left _ (List.mem_append_right _ hw))
    | exact List.mem_cons_of_mem _ (List.mem_append_left _ (List.mem_append_left _ (List.mem_append_right _ hw)))
set_option maxRecDepth 100000 in
set_option maxHeartbeats 4000000 in
theorem t_X5_foresee2 (l : Launch) (hl9 : l.stackTraces = false) (G : va_G) (cI cZ cT : ClassId) (o : Nat) (S : zS) (h k : Int32) (hh : ¬ h < 1 ∧ ¬ 150 < h) (hb : ¬ (¬ k < 0 ∧ k < 4)) : zX l G cI cZ cT o yX5_foresee wsX5_foresee { frames := 6, cells := 1, slots := 6, locals := 135 } [.ref (o + 0), .int h, .int k] S "java/lang/IndexOutOfBoundsException" := by
  refine z_ofX (cc := cX5_foresee) (maxL := 3) (by decide) rfl (by simp [lg_sl, Value.category]) ?_
  intro p9 e9 s9 m9 a9 b9 h9 c9 X hE9 ht9
  refine v_lo [0, 1, 2] (lo' := [(0, .ref (o + 0)), (1, .int h), (2, .int k)]) rfl ?_
  refine v_iload_n X 1 dX5_foresee_0 rfl rfl ?_
  refine v_iconst (v := 1) X (by decide) dX5_foresee_1 ?_
  refine v_icmp_lt X (tgt := 12) dX5_foresee_2 (by decide) (fun c_2 => ?_) (fun c_2 => ?_)
  ·
    exact absurd c_2 hh.1
  ·
    refine v_iload_n X 1 dX5_foresee_5 rfl rfl ?_
    refine v_sipush (v := 150) X (by decide) dX5_foresee_6 ?_
    refine v_icmp_le X (tgt := 22) dX5_foresee_9 (by decide) (fun c_9 => ?_) (fun c_9 => ?_)
    ·
      refine v_iload_n X 2 dX5_foresee_22 rfl rfl ?_
      refine v_if_lt X (tgt := 31) dX5_foresee_23 (by decide) (fun c_23 => ?_) (fun c_23 => ?_)
      ·
        exact x_throw hl9 X hE9 ht9 (text := "no such value") (is := 187) (by simp [x_cast]) xf_IOB (by simp [x_strs]) xm_X5_foresee_IOB xb_IOB xg_IOB dX5_foresee_31 dX5_foresee_34 dX5_foresee_35 dX5_foresee_37 dX5_foresee_40 (Nat.le_of_ble_eq_true rfl) (Nat.le_of_ble_eq_true rfl) (Nat.le_of_ble_eq_true rfl) (Nat.le_of_ble_eq_true rfl)
      ·
        refine v_iload_n X 2 dX5_foresee_26 rfl rfl ?_
        refine v_iconst (v := 4) X (by decide) dX5_foresee_27 ?_
        refine v_icmp_lt X (tgt := 41) dX5_foresee_28 (by decide) (fun c_28 => ?_) (fun c_28 => ?_)
        ·
          exact absurd ⟨c_23, c_28⟩ hb
        ·
          exact x_throw hl9 X hE9 ht9 (text := "no such value") (is := 187) (by simp [x_cast]) xf_IOB (by simp [x_strs]) xm_X5_foresee_IOB xb_IOB xg_IOB dX5_foresee_31 dX5_foresee_34 dX5_foresee_35 dX5_foresee_37 dX5_foresee_40 (Nat.le_of_ble_eq_true rfl) (Nat.le_of_ble_eq_true rfl) (Nat.le_of_ble_eq_true rfl) (Nat.le_of_ble_eq_true rfl)
    ·
      exact absurd c_9 hh.2
theorem xm_X5_falls_IOB : ∀ w ∈ Cond.classLink RX5 84 "java/lang/IndexOutOfBoundsException" :: Cond.initialized "java/lang/IndexOutOfBoundsException" :: (vx_atS RX5 88 "java/lang/IndexOutOfBoundsException" ["java/lang/RuntimeException", "java/lang/Exception"]).filter goodWord, w ∈ wsX5_falls := fun w hw => by
  rcases List.mem_cons.mp hw with rfl | hw
  · decide +kernel
  rcases List.mem_cons.mp hw with rfl | hw
  · decide +kernel
  first
    | exact List.mem_cons_of_mem _ (List.mem_append_right _ hw)
    | exact List.mem_cons_of_mem _ (List.mem_append_left _ (List.mem_append_right _ hw))
    | exact List.mem_cons_of_mem _ (List.mem_append_left _ (List.mem_append_left _ (List.mem_append_right _ hw)))
set_option maxRecDepth 100000 in
set_option maxHeartbeats 4000000 in
theorem t_X5_falls (l : Launch) (hl9 : l.stackTraces = false) (G : va_G) (cI cZ cT : ClassId) (o : Nat) (S : zS) (x y : Int32) (hp : ¬ pin x y) : zX l G cI cZ cT o yX5_falls wsX5_falls { frames := 6, cells := 1, slots := 6, locals := 135 } [.ref (o + 0), .int x, .int y] S "java/lang/IndexOutOfBoundsException" := by
  refine z_ofX (cc := cX5_falls) (maxL := 5) (by decide) rfl (by simp [lg_sl, Value.category]) ?_
  intro p9 e9 s9 m9 a9 b9 h9 c9 X hE9 ht9
  refine v_lo [0, 1, 2] (lo' := [(0, .ref (o + 0)), (1, .int x), (2, .int y)]) rfl ?_
  refine v_iload_n X 1 dX5_falls_0 rfl rfl ?_
  refine v_iload_n X 2 dX5_falls_1 rfl rfl ?_
  refine v_callSIf X [.int x, .int y] (c_X5_isInsideG l G cI cZ cT o S x y) 2 rfl gX5_falls_X5_isInside rfl ⟨rfl, rfl⟩ hy_X5_isInside_S ⟨Nat.le_of_ble_eq_true rfl, Nat.le_of_ble_eq_true rfl⟩ rfl (Nat.le_of_ble_eq_true rfl) dX5_falls_2 ?_
  refine v_top (y := 0) (s_pin_0 hp) ?_
  refine v_if_ne X (tgt := 18) dX5_falls_5 (by decide) (fun q => absurd q (by decide)) (fun _ => ?_)
  exact x_throw hl9 X hE9 ht9 (text := "no such cell") (is := 86) (by simp [x_cast]) xf_IOB (by simp [x_strs]) xm_X5_falls_IOB xb_IOB xg_IOB dX5_falls_8 dX5_falls_11 dX5_falls_12 dX5_falls_14 dX5_falls_17 (Nat.le_of_ble_eq_true rfl) (Nat.le_of_ble_eq_true rfl) (Nat.le_of_ble_eq_true rfl) (Nat.le_of_ble_eq_true rfl)
theorem xm_X5_byteAt_IOB : ∀ w ∈ Cond.classLink RX5 84 "java/lang/IndexOutOfBoundsException" :: Cond.initialized "java/lang/IndexOutOfBoundsException" :: (vx_atS RX5 88 "java/lang/IndexOutOfBoundsException" ["java/lang/RuntimeException", "java/lang/Exception"]).filter goodWord, w ∈ wsX5_byteAt := fun w hw => by
  rcases List.mem_cons.mp hw with rfl | hw
  · decide +kernel
  rcases List.mem_cons.mp hw with rfl | hw
  · decide +kernel
  first
    | exact List.mem_cons_of_mem _ (List.mem_append_right _ hw)
    | exact List.mem_cons_of_mem _ (List.mem_append_left _ (List.mem_append_right _ hw))
    | exact List.mem_cons_of_mem _ (List.mem_append_left _ (List.mem_append_left _ (List.mem_append_right _ hw)))
theorem hi_X5_byteAt_X5 : ∀ w ∈ wsX50, w ∈ wsX5_byteAt := by decide +kernel
theorem hl_X5_byteAt_20 : Cond.fieldLink RX5 20 RX5 (TX5 2).2.1 (TX5 2).2.2.1 ∈ wsX5_byteAt := by decide +kernel
set_option maxRecDepth 100000 in
set_option maxHeartbeats 4000000 in
theorem t_X5_byteAt (l : Launch) (hl9 : l.stackTraces = false) (G : va_G) (cI cZ cT : ClassId) (o : Nat) (S : zS) (i : Int32) (ep : S 2 3 0 = nI 0) : zX l G cI cZ cT o yX5_byteAt wsX5_byteAt { frames := 6, cells := 1, slots := 6, locals := 82 } [.ref (o + 0), .int i] S "java/lang/IndexOutOfBoundsException" := by
  refine z_ofX (cc := cX5_byteAt) (maxL := 2) (by decide) rfl (by simp [lg_sl, Value.category]) ?_
  intro p9 e9 s9 m9 a9 b9 h9 c9 X hE9 ht9
  refine v_lo [0, 1] (lo' := [(0, .ref (o + 0)), (1, .int i)]) rfl ?_
  refine v_iload_n X 1 dX5_byteAt_0 rfl rfl ?_
  refine v_if_lt X (tgt := 12) dX5_byteAt_1 (by decide) (fun c_1 => ?_) (fun c_1 => ?_)
  ·
    exact x_throw hl9 X hE9 ht9 (text := "no such place") (is := 209) (by simp [x_cast]) xf_IOB (by simp [x_strs]) xm_X5_byteAt_IOB xb_IOB xg_IOB dX5_byteAt_12 dX5_byteAt_15 dX5_byteAt_16 dX5_byteAt_18 dX5_byteAt_21 (Nat.le_of_ble_eq_true rfl) (Nat.le_of_ble_eq_true rfl) (Nat.le_of_ble_eq_true rfl) (Nat.le_of_ble_eq_true rfl)
  ·
    refine v_iload_n X 1 dX5_byteAt_4 rfl rfl ?_
    refine v_aload_n X 0 dX5_byteAt_5 rfl rfl ?_
    refine v_getX X 2 (by decide) hi_X5_byteAt_X5 hl_X5_byteAt_20 rfl (v := .int (S 2 3 0)) rfl dX5_byteAt_6 ?_
    refine v_top (y := nI 0) (ep) ?_
    refine v_icmp_lt X (tgt := 22) dX5_byteAt_9 (by decide) (fun c_9 => ?_) (fun c_9 => ?_)
    ·
      exact absurd c_9 c_1
    ·
      exact x_throw hl9 X hE9 ht9 (text := "no such place") (is := 209) (by simp [x_cast]) xf_IOB (by simp [x_strs]) xm_X5_byteAt_IOB xb_IOB xg_IOB dX5_byteAt_12 dX5_byteAt_15 dX5_byteAt_16 dX5_byteAt_18 dX5_byteAt_21 (Nat.le_of_ble_eq_true rfl) (Nat.le_of_ble_eq_true rfl) (Nat.le_of_ble_eq_true rfl) (Nat.le_of_ble_eq_true rfl)
theorem hi_X5_way_X5 : ∀ w ∈ wsX50, w ∈ wsX5_way := by decide +kernel
theorem hl_X5_way_27 : Cond.fieldLink RX5 27 RX5 (TX5 3).2.1 (TX5 3).2.2.1 ∈ wsX5_way := by decide +kernel
theorem hi_X5_way_X1 : ∀ w ∈ wsX10, w ∈ wsX5_way := by decide +kernel
theorem hl_X5_way_64 : Cond.fieldLink RX5 64 RX1 (TX1 0).2.1 (TX1 0).2.2.1 ∈ wsX5_way := by decide +kernel
set_option maxRecDepth 100000 in
set_option maxHeartbeats 4000000 in
/-- X5_way -/
theorem c_X5_way (l : Launch) (G : va_G) (cI cZ cT : ClassId) (o : Nat) (S : zS) (a b u v : Nat) (ha : a < 12) (hb : b < 12) (hu : u < 12) (hv : v < 12) (ht : S 0 2 (12 * b + a) = 0) : zI l G cI cZ cT o yX5_way wsX5_way { frames := 4, cells := 0, slots := 0, locals := 94 } [.ref (o + 0), .int (nI a), .int (nI b), .int (nI u), .int (nI v)] S (fun r u => r = -1 ∧ u = S) := by
  refine z_ofI (cc := cX5_way) (maxL := 7) (by decide) rfl (by simp [lg_sl, Value.category]) ?_
  intro p9 e9 s9 m9 a9 b9 h9 c9 X
  refine v_lo [0, 1, 2, 3, 4] (lo' := [(0, .ref (o + 0)), (1, .int (nI a)), (2, .int (nI b)), (3, .int (nI u)), (4, .int (nI v))]) rfl ?_
  refine v_iload_n X 1 dX5_way_0 rfl rfl ?_
  refine v_iload_n X 2 dX5_way_1 rfl rfl ?_
  refine v_callSIf X [.int (nI a), .int (nI b)] (c_X5_isInside l G cI cZ cT o S a b (by omega) (by omega)) 2 rfl gX5_way_X5_isInside rfl ⟨rfl, rfl⟩ hy_X5_isInside_S ⟨Nat.le_of_ble_eq_true rfl, Nat.le_of_ble_eq_true rfl⟩ rfl (Nat.le_of_ble_eq_true rfl) dX5_way_2 ?_
  refine v_if_eq X (tgt := 17) dX5_way_5 (by decide) (fun q => absurd q (by decide)) (fun _ => ?_)
  refine v_iload_n X 3 dX5_way_8 rfl rfl ?_
  refine v_iload X 4 dX5_way_9 rfl ?_
  refine v_callSIf X [.int (nI u), .int (nI v)] (c_X5_isInside l G cI cZ cT o S u v (by omega) (by omega)) 2 rfl gX5_way_X5_isInside rfl ⟨rfl, rfl⟩ hy_X5_isInside_S ⟨Nat.le_of_ble_eq_true rfl, Nat.le_of_ble_eq_true rfl⟩ rfl (Nat.le_of_ble_eq_true rfl) dX5_way_11 ?_
  refine v_if_ne X (tgt := 27) dX5_way_14 (by decide) (fun _ => ?_) (fun q => absurd q (by decide))
  refine v_iload_n X 1 dX5_way_27 rfl rfl ?_
  refine v_iload_n X 2 dX5_way_28 rfl rfl ?_
  refine v_callSIf X [.int (nI a), .int (nI b)] (c_X5_cellAt l G cI cZ cT o S a b (by omega) (by omega)) 2 rfl gX5_way_X5_cellAt rfl ⟨rfl, rfl⟩ hy_X5_cellAt_S ⟨Nat.le_of_ble_eq_true rfl, Nat.le_of_ble_eq_true rfl⟩ rfl (Nat.le_of_ble_eq_true rfl) dX5_way_29 ?_
  refine v_istore (lo' := [(5, .int (nI (12 * b + a))), (0, .ref (o + 0)), (1, .int (nI a)), (2, .int (nI b)), (3, .int (nI u)), (4, .int (nI v))]) X dX5_way_32 (by decide) rfl ?_
  refine v_iload_n X 4 dX5_way_34 rfl rfl ?_
  refine v_iload X 5 dX5_way_35 rfl ?_
  refine v_callSIf X [.int (nI u), .int (nI v)] (c_X5_cellAt l G cI cZ cT o S u v (by omega) (by omega)) 2 rfl gX5_way_X5_cellAt rfl ⟨rfl, rfl⟩ hy_X5_cellAt_S ⟨Nat.le_of_ble_eq_true rfl, Nat.le_of_ble_eq_true rfl⟩ rfl (Nat.le_of_ble_eq_true rfl) dX5_way_37 ?_
  refine v_istore (lo' := [(6, .int (nI (12 * v + u))), (5, .int (nI (12 * b + a))), (0, .ref (o + 0)), (1, .int (nI a)), (2, .int (nI b)), (3, .int (nI u)), (4, .int (nI v))]) X dX5_way_40 (by decide) rfl ?_
  refine v_aload_n X 2 dX5_way_42 rfl rfl ?_
  refine v_getX X 3 (by decide) hi_X5_way_X5 hl_X5_way_27 rfl (v := .ref (o + pS 0)) rfl dX5_way_43 ?_
  refine v_getS X (by omega) 0 (by decide) hi_X5_way_X1 hl_X5_way_64 rfl (v := .ref (o + pG 0)) rfl dX5_way_46 ?_
  refine v_iload X 1 dX5_way_49 rfl ?_
  refine v_callVIf X [.int (nI (12 * b + a))] (pG 0) (pG_lt (by omega)) (c_X0_isTunnel l G cI cZ cT o S 0 (12 * b + a) (by omega) (by omega)) (zc_G cI cZ cT o _ (by omega)) (C := RX0) (T := TX0) (N := 12) rfl 1 rfl gX5_way_X0_isTunnel rfl ⟨rfl, rfl⟩ hy_X0_isTunnel_V ⟨Nat.le_of_ble_eq_true rfl, Nat.le_of_ble_eq_true rfl⟩ rfl (Nat.le_of_ble_eq_true rfl) dX5_way_51 ?_
  refine v_top (y := 0) (if_neg (by rw [ht]; decide)) ?_
  refine v_if_eq X (tgt := 72) dX5_way_54 (by decide) (fun _ => ?_) (fun q => absurd q (by decide))
  refine v_iconst (v := -1) X (by decide) dX5_way_72 ?_
  exact v_iret X dX5_way_73 (by exact ⟨rfl, rfl⟩)
theorem hi_X1_sideAt_X1 : ∀ w ∈ wsX10, w ∈ wsX1_sideAt := by decide +kernel
theorem hl_X1_sideAt_24 : Cond.fieldLink RX1 24 RX1 (TX1 2).2.1 (TX1 2).2.2.1 ∈ wsX1_sideAt := by decide +kernel
set_option maxRecDepth 100000 in
set_option maxHeartbeats 4000000 in
/-- X1_sideAt -/
theorem c_X1_sideAt (l : Launch) (G : va_G) (cI cZ cT : ClassId) (o : Nat) (S : zS) (c : Nat) (en : S 0 12 0 = nI 0) : zI l G cI cZ cT o yX1_sideAt wsX1_sideAt { frames := 1, cells := 0, slots := 0, locals := 20 } [.ref (o + pS 0), .int (nI c)] S (fun r u => r = -1 ∧ u = S) := by
  refine z_ofI (cc := cX1_sideAt) (maxL := 3) (by decide) rfl (by simp [lg_sl, Value.category]) ?_
  intro p9 e9 s9 m9 a9 b9 h9 c9 X
  refine v_lo [0, 1] (lo' := [(0, .ref (o + pS 0)), (1, .int (nI c))]) rfl ?_
  refine v_iconst (v := 0) X (by decide) dX1_sideAt_0 ?_
  refine v_istore_n (lo' := [(2, .int 0), (0, .ref (o + pS 0)), (1, .int (nI c))]) X dX1_sideAt_1 rfl (by decide) rfl ?_
  refine v_iload_n X 0 dX1_sideAt_2 rfl rfl ?_
  refine v_aload_n X 1 dX1_sideAt_3 rfl rfl ?_
  refine v_getS X (by omega) 2 (by decide) hi_X1_sideAt_X1 hl_X1_sideAt_24 rfl (v := .int (S 0 12 0)) rfl dX1_sideAt_4 ?_
  refine v_top (y := nI 0) (en) ?_
  refine v_ncmp_ge X 0 0 rfl rfl (by omega) (by omega) (tgt := 51) dX1_sideAt_7 (by decide) (fun c_7 => ?_) (fun c_7 => ?_)
  ·
    refine v_iconst (v := -1) X (by decide) dX1_sideAt_51 ?_
    exact v_iret X dX1_sideAt_52 (by exact ⟨rfl, rfl⟩)
  ·
    exact absurd c_7 (by omega)
theorem hi_X5_signOf_X5 : ∀ w ∈ wsX50, w ∈ wsX5_signOf := by decide +kernel
theorem hl_X5_signOf_27 : Cond.fieldLink RX5 27 RX5 (TX5 3).2.1 (TX5 3).2.2.1 ∈ wsX5_signOf := by decide +kernel
theorem hy_X1_sideAt_V : yX1_sideAt.cls = RX1 ∧ yX1_sideAt.cls ≠ "java/lang/invoke/MethodHandle" ∧ yX1_sideAt.cls ≠ "java/lang/invoke/VarHandle" ∧ (parseMethodDescriptor yX1_sideAt.desc).map (fun d => d.parameters.length) = some 1 := by decide +kernel
theorem hi_X5_signOf_X1 : ∀ w ∈ wsX10, w ∈ wsX5_signOf := by decide +kernel
theorem hl_X5_signOf_64 : Cond.fieldLink RX5 64 RX1 (TX1 0).2.1 (TX1 0).2.2.1 ∈ wsX5_signOf := by decide +kernel
theorem hi_X5_signOf_X0 : ∀ w ∈ wsX00, w ∈ wsX5_signOf := by decide +kernel
theorem hl_X5_signOf_236 : Cond.fieldLink RX5 236 RX0 (TX0 1).2.1 (TX0 1).2.2.1 ∈ wsX5_signOf := by decide +kernel
theorem hl_X5_signOf_105 : Cond.fieldLink RX5 105 RX0 (TX0 0).2.1 (TX0 0).2.2.1 ∈ wsX5_signOf := by decide +kernel
set_option maxRecDepth 100000 in
set_option maxHeartbeats 4000000 in
/-- X5_signOf -/
theorem c_X5_signOf (l : Launch) (G : va_G) (cI cZ cT : ClassId) (o : Nat) (S : zS) (c : Nat) (hc : c < 144) (en : S 0 12 0 = nI 0) (hw : S 0 1 c = -1) (hh : S 0 0 c = 3) (ht : S 0 2 c = 0) : zI l G cI cZ cT o yX5_signOf wsX5_signOf { frames := 2, cells := 0, slots := 0, locals := 42 } [.ref (o + 0), .int (nI c)] S (fun r u => r = 51 ∧ u = S) := by
  refine z_ofI (cc := cX5_signOf) (maxL := 5) (by decide) rfl (by simp [lg_sl, Value.category]) ?_
  intro p9 e9 s9 m9 a9 b9 h9 c9 X
  refine v_lo [0, 1] (lo' := [(0, .ref (o + 0)), (1, .int (nI c))]) rfl ?_
  refine v_aload_n X 0 dX5_signOf_0 rfl rfl ?_
  refine v_getX X 3 (by decide) hi_X5_signOf_X5 hl_X5_signOf_27 rfl (v := .ref (o + pS 0)) rfl dX5_signOf_1 ?_
  refine v_iload_n X 1 dX5_signOf_4 rfl rfl ?_
  refine v_callVIf X [.int (nI c)] (pS 0) (pS_lt (by omega)) (c_X1_sideAt l G cI cZ cT o S c (en)) (zc_S cI cZ cT o _ (by omega)) (C := RX1) (T := TX1) (N := 4) rfl 1 rfl gX5_signOf_X1_sideAt rfl ⟨rfl, rfl⟩ hy_X1_sideAt_V ⟨Nat.le_of_ble_eq_true rfl, Nat.le_of_ble_eq_true rfl⟩ rfl (Nat.le_of_ble_eq_true rfl) dX5_signOf_5 ?_
  refine v_istore_n (lo' := [(2, .int (-1)), (0, .ref (o + 0)), (1, .int (nI c))]) X dX5_signOf_8 rfl (by decide) rfl ?_
  refine v_iload_n X 0 dX5_signOf_9 rfl rfl ?_
  refine v_if_lt X (tgt := 18) dX5_signOf_10 (by decide) (fun _ => ?_) (fun q => absurd q (by decide))
  refine v_aload_n X 1 dX5_signOf_18 rfl rfl ?_
  refine v_getX X 3 (by decide) hi_X5_signOf_X5 hl_X5_signOf_27 rfl (v := .ref (o + pS 0)) rfl dX5_signOf_19 ?_
  refine v_getS X (by omega) 0 (by decide) hi_X5_signOf_X1 hl_X5_signOf_64 rfl (v := .ref (o + pG 0)) rfl dX5_signOf_22 ?_
  refine v_astore_n (lo' := [(3, .ref (o + pG 0)), (2, .int (-1)), (0, .ref (o + 0)), (1, .int (nI c))]) X dX5_signOf_25 rfl (by decide) rfl ?_
  refine v_aload_n X 0 dX5_signOf_26 rfl rfl ?_
  refine v_iload_n X 3 dX5_signOf_27 rfl rfl ?_
  refine v_callVIf X [.int (nI c)] (pG 0) (pG_lt (by omega)) (c_X0_isTunnel l G cI cZ cT o S 0 c (by omega) (by omega)) (zc_G cI cZ cT o _ (by omega)) (C := RX0) (T := TX0) (N := 12) rfl 1 rfl gX5_signOf_X0_isTunnel rfl ⟨rfl, rfl⟩ hy_X0_isTunnel_V ⟨Nat.le_of_ble_eq_true rfl, Nat.le_of_ble_eq_true rfl⟩ rfl (Nat.le_of_ble_eq_true rfl) dX5_signOf_28 ?_
  refine v_top (y := 0) (if_neg (by rw [ht]; decide)) ?_
  refine v_istore (lo' := [(4, .int 0), (3, .ref (o + pG 0)), (2, .int (-1)), (0, .ref (o + 0)), (1, .int (nI c))]) X dX5_signOf_31 (by decide) rfl ?_
  refine v_aload_n X 1 dX5_signOf_33 rfl rfl ?_
  refine v_getG X (by omega) 1 (by decide) hi_X5_signOf_X0 hl_X5_signOf_236 rfl (v := .ref (o + pA 0 1)) rfl dX5_signOf_34 ?_
  refine v_iload_n X 4 dX5_signOf_37 rfl rfl ?_
  refine v_ialdA X (w := 0) (by omega) 1 (by omega) c rfl (by omega) dX5_signOf_38 ?_
  refine v_top (y := -1) (hw) ?_
  refine v_if_ne X (tgt := 45) dX5_signOf_39 (by decide) (fun _ => ?_) (fun q => absurd q (by decide))
  refine v_aload_n X 1 dX5_signOf_45 rfl rfl ?_
  refine v_getG X (by omega) 1 (by decide) hi_X5_signOf_X0 hl_X5_signOf_236 rfl (v := .ref (o + pA 0 1)) rfl dX5_signOf_46 ?_
  refine v_iload_n X 4 dX5_signOf_49 rfl rfl ?_
  refine v_ialdA X (w := 0) (by omega) 1 (by omega) c rfl (by omega) dX5_signOf_50 ?_
  refine v_top (y := -1) (hw) ?_
  refine v_if_le X (tgt := 67) dX5_signOf_51 (by decide) (fun _ => ?_) (fun q => absurd q (by decide))
  refine v_aload_n X 1 dX5_signOf_67 rfl rfl ?_
  refine v_iload_n X 4 dX5_signOf_68 rfl rfl ?_
  refine v_callVIf X [.int (nI c)] (pG 0) (pG_lt (by omega)) (c_X0_isRock l G cI cZ cT o S 0 c (by omega) (by omega)) (zc_G cI cZ cT o _ (by omega)) (C := RX0) (T := TX0) (N := 12) rfl 1 rfl gX5_signOf_X0_isRock rfl ⟨rfl, rfl⟩ hy_X0_isRock_V ⟨Nat.le_of_ble_eq_true rfl, Nat.le_of_ble_eq_true rfl⟩ rfl (Nat.le_of_ble_eq_true rfl) dX5_signOf_69 ?_
  refine v_top (y := 0) (if_neg (by rw [hh]; decide)) ?_
  refine v_if_eq X (tgt := 78) dX5_signOf_72 (by decide) (fun _ => ?_) (fun q => absurd q (by decide))
  refine v_iload X 0 dX5_signOf_78 rfl ?_
  refine v_if_eq X (tgt := 100) dX5_signOf_80 (by decide) (fun _ => ?_) (fun q => absurd q (by decide))
  refine v_bipush (v := 48) X (by decide) dX5_signOf_100 ?_
  refine v_aload_n X 1 dX5_signOf_102 rfl rfl ?_
  refine v_getG X (by omega) 0 (by decide) hi_X5_signOf_X0 hl_X5_signOf_105 rfl (v := .ref (o + pA 0 0)) rfl dX5_signOf_103 ?_
  refine v_iload_n X 4 dX5_signOf_106 rfl rfl ?_
  refine v_ialdA X (w := 0) (by omega) 0 (by omega) c rfl (by omega) dX5_signOf_107 ?_
  refine v_top (y := 3) (hh) ?_
  refine v_iadd X dX5_signOf_108 ?_
  exact v_iret X dX5_signOf_109 (by exact ⟨by decide, rfl⟩)
def s_drawN (S : zS) : Nat → zS
  | 0 => S
  | i + 1 => z_up (s_drawN S i) 2 2 i (if i % 13 = 12 then 10 else 51)
theorem drawN_0 (S : zS) : ∀ i k j, s_drawN S i 0 k j = S 0 k j
  | 0, _, _ => rfl
  | i + 1, k, j => (z_up_ne _ _ (by omega)).trans (drawN_0 S i k j)
theorem hi_X5_draw_X5 : ∀ w ∈ wsX50, w ∈ wsX5_draw := by decide +kernel
theorem hl_X5_draw_20 : Cond.fieldLink RX5 20 RX5 (TX5 2).2.1 (TX5 2).2.2.1 ∈ wsX5_draw := by decide +kernel
theorem hl_X5_draw_16 : Cond.fieldLink RX5 16 RX5 (TX5 1).2.1 (TX5 1).2.2.1 ∈ wsX5_draw := by decide +kernel
theorem hy_X5_signOf_V : yX5_signOf.cls = RX5 ∧ yX5_signOf.cls ≠ "java/lang/invoke/MethodHandle" ∧ yX5_signOf.cls ≠ "java/lang/invoke/VarHandle" ∧ (parseMethodDescriptor yX5_signOf.desc).map (fun d => d.parameters.length) = some 1 := by decide +kernel
set_option maxRecDepth 100000 in
set_option maxHeartbeats 4000000 in
/-- X5_draw -/
theorem c_X5_draw (l : Launch) (G : va_G) (cI cZ cT : ClassId) (o : Nat) (S : zS) (en : S 0 12 0 = nI 0) (hq : ∀ c, c < 144 → S 0 1 c = -1 ∧ S 0 0 c = 3 ∧ S 0 2 c = 0) : zI l G cI cZ cT o yX5_draw wsX5_draw { frames := 3, cells := 0, slots := 0, locals := 66 } [.ref (o + 0)] S (fun r u => r = 156 ∧ u = z_up (s_drawN S 156) 2 3 0 156) := by
  refine z_ofI (cc := cX5_draw) (maxL := 3) (by decide) rfl (by simp [lg_sl, Value.category]) ?_
  intro p9 e9 s9 m9 a9 b9 h9 c9 X
  refine v_lo [0] (lo' := [(0, .ref (o + 0))]) rfl ?_
  refine v_iconst (v := 0) X (by decide) dX5_draw_0 ?_
  refine v_istore_n (lo' := [(1, .int 0), (0, .ref (o + 0))]) X dX5_draw_1 rfl (by decide) rfl ?_
  have L_2 : ∀ (d i : Nat), i + d = 156 → z_V p9 l e9 (headSpec wsX5_draw { frames := 3, cells := 0, slots := 0, locals := 66 }).room s9 m9 a9 b9 h9 c9 (MQ b9 (va_Qi (fun r u => r = 156 ∧ u = z_up (s_drawN S 156) 2 3 0 156) (z_B G cI cZ cT o) (z_A o s9.heap.size)) a9 s9 0 0 (z_A o s9.heap.size)) G cI cZ cT o 3 (s_drawN S i) 2 [(0, .ref (o + 0)), (1, .int (nI i))] [] := by
    intro d
    induction d with
    | zero =>
      intro i hi_2
      have he_2 : i = 156 := by omega
      rw [he_2]
      refine v_iload_n X 1 dX5_draw_2 rfl rfl ?_
      refine v_sipush (v := 156) X (by decide) dX5_draw_3 ?_
      refine v_ncmp_ge X 156 156 rfl rfl (by omega) (by omega) (tgt := 49) dX5_draw_6 (by decide) (fun c_6 => ?_) (fun c_6 => ?_)
      ·
        refine v_aload_n X 0 dX5_draw_49 rfl rfl ?_
        refine v_sipush (v := 156) X (by decide) dX5_draw_50 ?_
        refine v_putX2 X hi_X5_draw_X5 hl_X5_draw_20 dX5_draw_53 ?_
        refine v_aload_n X 0 dX5_draw_56 rfl rfl ?_
        refine v_getX X 2 (by decide) hi_X5_draw_X5 hl_X5_draw_20 rfl (v := .int ((z_up (s_drawN S 156) 2 3 0 156) 2 3 0)) rfl dX5_draw_57 ?_
        refine v_top (y := 156) (z_up_at _ _ _ _ _) ?_
        exact v_iret X dX5_draw_60 (by exact ⟨rfl, rfl⟩)
      ·
        exact absurd c_6 (by omega)
    | succ d ih_2 =>
      intro i hi_2
      refine v_iload_n X 1 dX5_draw_2 rfl rfl ?_
      refine v_sipush (v := 156) X (by decide) dX5_draw_3 ?_
      refine v_ncmp_ge X i 156 rfl rfl (by omega) (by omega) (tgt := 49) dX5_draw_6 (by decide) (fun c_6 => ?_) (fun c_6 => ?_)
      ·
        exact absurd c_6 (by omega)
      ·
        refine v_iload_n X 1 dX5_draw_9 rfl rfl ?_
        refine v_bipush (v := 13) X (by decide) dX5_draw_10 ?_
        refine v_irem X (by decide) dX5_draw_12 ?_
        refine v_top (y := nI (i % 13)) (pk_rem (a := i) (d := 13) (by omega) (by omega) (by omega)) ?_
        refine v_istore_n (lo' := [(2, .int (nI (i % 13))), (0, .ref (o + 0)), (1, .int (nI i))]) X dX5_draw_13 rfl (by decide) rfl ?_
        refine v_aload_n X 1 dX5_draw_14 rfl rfl ?_
        refine v_getX X 1 (by decide) hi_X5_draw_X5 hl_X5_draw_16 rfl (v := .ref (o + 3)) rfl dX5_draw_15 ?_
        refine v_iload_n X 2 dX5_draw_18 rfl rfl ?_
        refine v_iload_n X 0 dX5_draw_19 rfl rfl ?_
        refine v_bipush (v := 12) X (by decide) dX5_draw_20 ?_
        refine v_ncmp_ne X (i % 13) 12 rfl rfl (by omega) (by omega) (tgt := 30) dX5_draw_22 (by decide) (fun c_22 => ?_) (fun c_22 => ?_)
        ·
          refine v_aload_n X 1 dX5_draw_30 rfl rfl ?_
          refine v_iload_n X 0 dX5_draw_31 rfl rfl ?_
          refine v_iload_n X 2 dX5_draw_32 rfl rfl ?_
          refine v_bipush (v := 13) X (by decide) dX5_draw_33 ?_
          refine v_idiv X (by decide) dX5_draw_35 ?_
          refine v_top (y := nI (i / 13)) (pk_div (a := i) (d := 13) (by omega) (by omega) (by omega)) ?_
          refine v_callSIf X [.int (nI (i % 13)), .int (nI (i / 13))] (c_X5_cellAt l G cI cZ cT o (s_drawN S i) (i % 13) (i / 13) (by omega) (by omega)) 2 rfl gX5_draw_X5_cellAt rfl ⟨rfl, rfl⟩ hy_X5_cellAt_S ⟨Nat.le_of_ble_eq_true rfl, Nat.le_of_ble_eq_true rfl⟩ rfl (Nat.le_of_ble_eq_true rfl) dX5_draw_36 ?_
          refine v_callVIf X [.int (nI (12 * (i / 13) + (i % 13)))] (0) (by decide) (c_X5_signOf l G cI cZ cT o (s_drawN S i) (12 * (i / 13) + (i % 13)) (by omega) (by rw [drawN_0]; exact en) (by rw [drawN_0]; exact (hq _ (by omega)).1) (by rw [drawN_0]; exact (hq _ (by omega)).2.1) (by rw [drawN_0]; exact (hq _ (by omega)).2.2)) (zc_X cI cZ cT o _) (C := RX5) (T := TX5) (N := 6) rfl 1 rfl gX5_draw_X5_signOf rfl ⟨rfl, rfl⟩ hy_X5_signOf_V ⟨Nat.le_of_ble_eq_true rfl, Nat.le_of_ble_eq_true rfl⟩ rfl (Nat.le_of_ble_eq_true rfl) dX5_draw_39 ?_
          refine v_ast X 3 (by decide) (zc_3 cI cZ cT o _) i rfl (by omega) (by decide) (zs_3 cI cZ cT o _ _ _) dX5_draw_42 ?_
          refine v_iinc (v := nI (i + 1)) (lo' := [(1, .int (nI (i + 1))), (2, .int (nI (i % 13))), (0, .ref (o + 0))]) X 2 dX5_draw_43 rfl (nI_1 i) (by decide) rfl ?_
          refine v_goto (tgt := 2) X dX5_draw_46 (by decide) ?_
          refine v_lo [2, 0] (lo' := [(0, .ref (o + 0)), (1, .int (nI (i + 1)))]) rfl ?_
          refine v_eq (S' := s_drawN S (i + 1)) (lo' := [(0, .ref (o + 0)), (1, .int (nI (i + 1)))]) (by simp [s_drawN, c_6, c_22]) (by rfl) ?_
          exact ih_2 (i + 1) (by omega)
        ·
          refine v_bipush (v := 10) X (by decide) dX5_draw_25 ?_
          refine v_goto (tgt := 42) X dX5_draw_27 (by decide) ?_
          refine v_ast X 3 (by decide) (zc_3 cI cZ cT o _) i rfl (by omega) (by decide) (zs_3 cI cZ cT o _ _ _) dX5_draw_42 ?_
          refine v_iinc (v := nI (i + 1)) (lo' := [(1, .int (nI (i + 1))), (2, .int (nI (i % 13))), (0, .ref (o + 0))]) X 2 dX5_draw_43 rfl (nI_1 i) (by decide) rfl ?_
          refine v_goto (tgt := 2) X dX5_draw_46 (by decide) ?_
          refine v_lo [2, 0] (lo' := [(0, .ref (o + 0)), (1, .int (nI (i + 1)))]) rfl ?_
          refine v_eq (S' := s_drawN S (i + 1)) (lo' := [(0, .ref (o + 0)), (1, .int (nI (i + 1)))]) (by simp [s_drawN, c_6, c_22]) (by rfl) ?_
          exact ih_2 (i + 1) (by omega)
  refine v_lo [1, 0] (lo' := [(0, .ref (o + 0)), (1, .int 0)]) rfl ?_
  refine v_eq (S' := s_drawN S 0) (lo' := [(0, .ref (o + 0)), (1, .int (nI 0))]) (by rfl) (by rfl) ?_
  exact L_2 (156) 0 (by omega)
set_option maxRecDepth 100000 in
set_option maxHeartbeats 4000000 in
/-- X5_falls -/
theorem c_X5_fallsQ (l : Launch) (G : va_G) (cI cZ cT : ClassId) (o : Nat) (S : zS) (n x y : Nat) (hok : z_ok S 0 n) (hrg : z_rg S 1) (hbo : z_bo S 0) (hx : x < 12) (hy : y < 12) (hf : ∀ i, 0 < i → s_hours (s_scopy S n) 1 n i 1 8 (12 * y + x) = 0) : zI l G cI cZ cT o yX5_falls wsX5_falls { frames := 6, cells := 0, slots := 0, locals := 135 } [.ref (o + 0), .int (nI x), .int (nI y)] S (fun r (_ : zS) => r = -1) := by
  refine z_ofI (cc := cX5_falls) (maxL := 5) (by decide) rfl (by simp [lg_sl, Value.category]) ?_
  intro p9 e9 s9 m9 a9 b9 h9 c9 X
  refine v_lo [0, 1, 2] (lo' := [(0, .ref (o + 0)), (1, .int (nI x)), (2, .int (nI y))]) rfl ?_
  refine v_iload_n X 1 dX5_falls_0 rfl rfl ?_
  refine v_iload_n X 2 dX5_falls_1 rfl rfl ?_
  refine v_callSIf X [.int (nI x), .int (nI y)] (c_X5_isInside l G cI cZ cT o S x y (by omega) (by omega)) 2 rfl gX5_falls_X5_isInside rfl ⟨rfl, rfl⟩ hy_X5_isInside_S ⟨Nat.le_of_ble_eq_true rfl, Nat.le_of_ble_eq_true rfl⟩ rfl (Nat.le_of_ble_eq_true rfl) dX5_falls_2 ?_
  refine v_if_ne X (tgt := 18) dX5_falls_5 (by decide) (fun _ => ?_) (fun q => absurd q (by decide))
  refine v_iload_n X 1 dX5_falls_18 rfl rfl ?_
  refine v_iload_n X 2 dX5_falls_19 rfl rfl ?_
  refine v_callSIf X [.int (nI x), .int (nI y)] (c_X5_cellAt l G cI cZ cT o S x y (by omega) (by omega)) 2 rfl gX5_falls_X5_cellAt rfl ⟨rfl, rfl⟩ hy_X5_cellAt_S ⟨Nat.le_of_ble_eq_true rfl, Nat.le_of_ble_eq_true rfl⟩ rfl (Nat.le_of_ble_eq_true rfl) dX5_falls_20 ?_
  refine v_istore_n (lo' := [(3, .int (nI (12 * y + x))), (0, .ref (o + 0)), (1, .int (nI x)), (2, .int (nI y))]) X dX5_falls_23 rfl (by decide) rfl ?_
  refine v_aload_n X 1 dX5_falls_24 rfl rfl ?_
  refine v_getX X 4 (by decide) hi_X5_falls_X5 hl_X5_falls_31 rfl (v := .ref (o + pS 1)) rfl dX5_falls_25 ?_
  refine v_aload_n X 1 dX5_falls_28 rfl rfl ?_
  refine v_getX X 3 (by decide) hi_X5_falls_X5 hl_X5_falls_27 rfl (v := .ref (o + pS 0)) rfl dX5_falls_29 ?_
  refine v_callVUf X [.ref (o + pS 0)] (pS 1) (pS_lt (by omega)) (c_X1_copyFrom l G cI cZ cT o S n hok.1 hok.2.1 hbo) (zc_S cI cZ cT o _ (by omega)) (C := RX1) (T := TX1) (N := 4) rfl 1 rfl gX5_falls_X1_copyFrom rfl ⟨rfl, rfl⟩ hy_X1_copyFrom_V ⟨Nat.le_of_ble_eq_true rfl, Nat.le_of_ble_eq_true rfl⟩ rfl (Nat.le_of_ble_eq_true rfl) dX5_falls_32 ?_
  refine v_iconst (v := 1) X (by decide) dX5_falls_35 ?_
  refine v_istore (lo' := [(4, .int 1), (3, .int (nI (12 * y + x))), (0, .ref (o + 0)), (1, .int (nI x)), (2, .int (nI y))]) X dX5_falls_36 (by decide) rfl ?_
  have L_38 : ∀ (d i : Nat), i + d = 150 → z_V p9 l e9 (headSpec wsX5_falls { frames := 6, cells := 0, slots := 0, locals := 135 }).room s9 m9 a9 b9 h9 c9 (MQ b9 (va_Qi (fun r (_ : zS) => r = -1) (z_B G cI cZ cT o) (z_A o s9.heap.size)) a9 s9 0 0 (z_A o s9.heap.size)) G cI cZ cT o 5 (s_hours (s_scopy S n) 1 n i) 38 [(0, .ref (o + 0)), (1, .int (nI x)), (2, .int (nI y)), (3, .int (nI (12 * y + x))), (4, .int (nI (i + 1)))] [] := by
    intro d
    induction d with
    | zero =>
      intro i hi_38
      have he_38 : i = 150 := by omega
      rw [he_38]
      refine v_iload X 4 dX5_falls_38 rfl ?_
      refine v_sipush (v := 150) X (by decide) dX5_falls_40 ?_
      refine v_ncmp_gt X (150 + 1) 150 rfl rfl (by omega) (by omega) (tgt := 78) dX5_falls_43 (by decide) (fun c_43 => ?_) (fun c_43 => ?_)
      ·
        refine v_iconst (v := -1) X (by decide) dX5_falls_78 ?_
        exact v_iret X dX5_falls_79 (by rfl)
      ·
        exact absurd c_43 (by omega)
    | succ d ih_38 =>
      intro i hi_38
      refine v_iload X 4 dX5_falls_38 rfl ?_
      refine v_sipush (v := 150) X (by decide) dX5_falls_40 ?_
      refine v_ncmp_gt X (i + 1) 150 rfl rfl (by omega) (by omega) (tgt := 78) dX5_falls_43 (by decide) (fun c_43 => ?_) (fun c_43 => ?_)
      ·
        exact absurd c_43 (by omega)
      ·
        refine v_aload_n X 0 dX5_falls_46 rfl rfl ?_
        refine v_getX X 4 (by decide) hi_X5_falls_X5 hl_X5_falls_31 rfl (v := .ref (o + pS 1)) rfl dX5_falls_47 ?_
        refine v_iconst (v := 1) X (by decide) dX5_falls_50 ?_
        refine v_callVUf X [.int 1] (pS 1) (pS_lt (by omega)) (c_X1_letHoursGoBy l G cI cZ cT o (s_hours (s_scopy S n) 1 n i) 1 n 1 (by omega) (by omega) (ok_hours (ok_scopy hok hrg) i)) (zc_S cI cZ cT o _ (by omega)) (C := RX1) (T := TX1) (N := 4) rfl 1 rfl gX5_falls_X1_letHoursGoBy rfl ⟨rfl, rfl⟩ hy_X1_letHoursGoBy_V ⟨Nat.le_of_ble_eq_true rfl, Nat.le_of_ble_eq_true rfl⟩ rfl (Nat.le_of_ble_eq_true rfl) dX5_falls_51 ?_
        refine v_aload_n X 0 dX5_falls_54 rfl rfl ?_
        refine v_getX X 4 (by decide) hi_X5_falls_X5 hl_X5_falls_31 rfl (v := .ref (o + pS 1)) rfl dX5_falls_55 ?_
        refine v_getS X (by omega) 0 (by decide) hi_X5_falls_X1 hl_X5_falls_64 rfl (v := .ref (o + pG 1)) rfl dX5_falls_58 ?_
        refine v_getG X (by omega) 8 (by decide) hi_X5_falls_X0 hl_X5_falls_199 rfl (v := .ref (o + pA 1 8)) rfl dX5_falls_61 ?_
        refine v_iload_n X 3 dX5_falls_64 rfl rfl ?_
        refine v_ialdA X (w := 1) (by omega) 8 (by omega) (12 * y + x) rfl (by omega) dX5_falls_65 ?_
        refine v_if_eq X (tgt := 72) dX5_falls_66 (by decide) (fun c_66 => ?_) (fun c_66 => ?_)
        ·
          refine v_iinc (v := nI (i + 1 + 1)) (lo' := [(4, .int (nI (i + 1 + 1))), (0, .ref (o + 0)), (1, .int (nI x)), (2, .int (nI y)), (3, .int (nI (12 * y + x)))]) X 4 dX5_falls_72 rfl (nI_1 (i + 1)) (by decide) rfl ?_
          refine v_goto (tgt := 38) X dX5_falls_75 (by decide) ?_
          refine v_lo [1, 2, 3, 4, 0] (lo' := [(0, .ref (o + 0)), (1, .int (nI x)), (2, .int (nI y)), (3, .int (nI (12 * y + x))), (4, .int (nI (i + 1 + 1)))]) rfl ?_
          refine v_eq (S' := s_hours (s_scopy S n) 1 n (i + 1)) (lo' := [(0, .ref (o + 0)), (1, .int (nI x)), (2, .int (nI y)), (3, .int (nI (12 * y + x))), (4, .int (nI (i + 1 + 1)))]) (by rfl) (by rfl) ?_
          exact ih_38 (i + 1) (by omega)
        ·
          exact absurd (hf (i + 1) (by omega)) c_66
  refine v_lo [2, 3, 4, 1, 0] (lo' := [(0, .ref (o + 0)), (1, .int (nI x)), (2, .int (nI y)), (3, .int (nI (12 * y + x))), (4, .int 1)]) rfl ?_
  refine v_eq (S' := s_hours (s_scopy S n) 1 n 0) (lo' := [(0, .ref (o + 0)), (1, .int (nI x)), (2, .int (nI y)), (3, .int (nI (12 * y + x))), (4, .int (nI (0 + 1)))]) (by rfl) (by rfl) ?_
  exact L_38 (150) 0 (by omega)
theorem hi_X5_share_X5 : ∀ w ∈ wsX50, w ∈ wsX5_share := by decide +kernel
theorem hl_X5_share_27 : Cond.fieldLink RX5 27 RX5 (TX5 3).2.1 (TX5 3).2.2.1 ∈ wsX5_share := by decide +kernel
theorem hi_X5_share_X1 : ∀ w ∈ wsX10, w ∈ wsX5_share := by decide +kernel
theorem hl_X5_share_64 : Cond.fieldLink RX5 64 RX1 (TX1 0).2.1 (TX1 0).2.2.1 ∈ wsX5_share := by decide +kernel
set_option maxRecDepth 100000 in
set_option maxHeartbeats 4000000 in
/-- X5_share -/
theorem c_X5_share (l : Launch) (G : va_G) (cI cZ cT : ClassId) (o : Nat) (S : zS) (hd : s_down S 0 = nI 0) (hu : s_up S 0 = nI 0) : zD l G cI cZ cT o yX5_share wsX5_share { frames := 1, cells := 0, slots := 0, locals := 22 } [.ref (o + 0)] S (fun r u => r = FP.dconst0 ∧ u = S) := by
  refine z_ofD (cc := cX5_share) (maxL := 3) (by decide) rfl (by simp [lg_sl, Value.category]) ?_
  intro p9 e9 s9 m9 a9 b9 h9 c9 X
  refine v_lo [0] (lo' := [(0, .ref (o + 0))]) rfl ?_
  refine v_aload_n X 0 dX5_share_0 rfl rfl ?_
  refine v_getX X 3 (by decide) hi_X5_share_X5 hl_X5_share_27 rfl (v := .ref (o + pS 0)) rfl dX5_share_1 ?_
  refine v_getS X (by omega) 0 (by decide) hi_X5_share_X1 hl_X5_share_64 rfl (v := .ref (o + pG 0)) rfl dX5_share_4 ?_
  refine v_callVIf X [] (pG 0) (pG_lt (by omega)) (c_X0_wallsFallen l G cI cZ cT o S 0 (by omega)) (zc_G cI cZ cT o _ (by omega)) (C := RX0) (T := TX0) (N := 12) rfl 0 rfl gX5_share_X0_wallsFallen rfl ⟨rfl, rfl⟩ hy_X0_wallsFallen_V ⟨Nat.le_of_ble_eq_true rfl, Nat.le_of_ble_eq_true rfl⟩ rfl (Nat.le_of_ble_eq_true rfl) dX5_share_7 ?_
  refine v_top (y := nI 0) (hd) ?_
  refine v_istore_n (lo' := [(1, .int (nI 0)), (0, .ref (o + 0))]) X dX5_share_10 rfl (by decide) rfl ?_
  refine v_iload_n X 0 dX5_share_11 rfl rfl ?_
  refine v_aload_n X 1 dX5_share_12 rfl rfl ?_
  refine v_getX X 3 (by decide) hi_X5_share_X5 hl_X5_share_27 rfl (v := .ref (o + pS 0)) rfl dX5_share_13 ?_
  refine v_getS X (by omega) 0 (by decide) hi_X5_share_X1 hl_X5_share_64 rfl (v := .ref (o + pG 0)) rfl dX5_share_16 ?_
  refine v_callVIf X [] (pG 0) (pG_lt (by omega)) (c_X0_wallsStanding l G cI cZ cT o S 0 (by omega)) (zc_G cI cZ cT o _ (by omega)) (C := RX0) (T := TX0) (N := 12) rfl 0 rfl gX5_share_X0_wallsStanding rfl ⟨rfl, rfl⟩ hy_X0_wallsStanding_V ⟨Nat.le_of_ble_eq_true rfl, Nat.le_of_ble_eq_true rfl⟩ rfl (Nat.le_of_ble_eq_true rfl) dX5_share_19 ?_
  refine v_top (y := nI 0) (hu) ?_
  refine v_iadd X dX5_share_22 ?_
  refine v_top (y := nI (0 + 0)) (nI_add 0 0) ?_
  refine v_istore_n (lo' := [(2, .int (nI (0 + 0))), (1, .int (nI 0)), (0, .ref (o + 0))]) X dX5_share_23 rfl (by decide) rfl ?_
  refine v_iload_n X 0 dX5_share_24 rfl rfl ?_
  refine v_nif_ne X (0 + 0) rfl (by omega) (tgt := 30) dX5_share_25 (by decide) (fun c_25 => ?_) (fun c_25 => ?_)
  ·
    exact absurd rfl c_25
  ·
    refine v_dconst0 X dX5_share_28 ?_
    exact v_dret X dX5_share_29 (by exact ⟨rfl, rfl⟩)
end ZX2
