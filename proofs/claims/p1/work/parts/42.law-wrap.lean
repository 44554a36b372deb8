section ZMW
variable {p : Program} {l : Launch} {e : Env} {R : Room} {s : State} {m : MethodId} {args : Array Value} {below : List Frame} {meth : Method} {c : Code} {Q : State → Prop}
variable {G : va_G} {nL k9 q9 : Nat} {cc : ByteArray} {own : String} {Ts : List Cond} {rt : Option FieldType} {tys : List (ClassId × FieldType)} {K : Nat × Nat × (Nat → Int32)} {A : Nat → Prop} {ws ws' : va_W} {pc : Nat} {lo lo' : List (Nat × Value)} {st rest : List Value} {cI cZ cT cB : ClassId} {o : Nat}
theorem j_last (X : j_X p s m args meth c cc nL own Ts rt G tys) (q0 t0 : Nat) {a : Nat} {cA : ClassId} {n : Nat} {f : Nat → Int64} (he : ws[q0]? = some (a, .inl (cA, n, .inr (.inl f)))) (ht : tys[t0]? = some (cA, .long)) (j : Nat) {i : Int32} {x : Int64} (hi : i = nI j) (hj : j < n) (hn : n < 2 ^ 31) (hd : decode cc pc = .ok (.lastore, 1)) (kk : j_V p l e R s m args below meth c Q G nL A k9 q9 (ws.set q0 (a, .inl (cA, n, .inr (.inl (vp_updL f j x))))) (pc + 1) lo st) : j_V p l e R s m args below meth c Q G nL A k9 q9 ws pc lo (.long x :: .int i :: .ref a :: st) := fun H locs ls hP hD hS h => by
  subst hi
  refine va_last X.1.1 X.1.2.1 X.2.1 hP hD hS q0 t0 he ht (vp_in_nI hj hn) hd (fun H1 locs1 hP1 hD1 hS1 => ?_)
  rw [nI_clamp (Nat.lt_trans hj hn)] at hP1 hD1
  exact kk H1 locs1 ls hP1 hD1 hS1 h
theorem j_lald (X : j_X p s m args meth c cc nL own Ts rt G tys) (q0 t0 : Nat) {a : Nat} {cA : ClassId} {n : Nat} {f : Nat → Int64} (he : ws[q0]? = some (a, .inl (cA, n, .inr (.inl f)))) (ht : tys[t0]? = some (cA, .long)) (j : Nat) {i : Int32} (hi : i = nI j) (hj : j < n) (hn : n < 2 ^ 31) (hd : decode cc pc = .ok (.laload, 1)) (kk : j_V p l e R s m args below meth c Q G nL A k9 q9 ws (pc + 1) lo (.long (f j) :: st)) : j_V p l e R s m args below meth c Q G nL A k9 q9 ws pc lo (.int i :: .ref a :: st) := fun H locs ls hP hD hS h => by
  subst hi
  refine va_lald X.1.1 X.1.2.1 X.2.1 hP q0 t0 he ht (vp_in_nI hj hn) hd ?_
  rw [nI_clamp (Nat.lt_trans hj hn)]
  exact kk H locs ls hP hD hS h
theorem j_newL (X : j_X p s m args meth c cc nL own Ts rt G tys) (hA : ∀ q, s.heap.size ≤ q → A q) (t0 : Nat) {cA0 : ClassId} (ht : tys[t0]? = some (cA0, .long)) (harr : Cond.arrayClass .long ∈ Ts) {n : Int32} (N : Nat) (hn : ¬ n < 0) (hN : n.toNatClampNeg = N) (hb : N * componentBytes .long ≤ 536870912) (hk : k9 + 1 ≤ R.cells) (hq : q9 + N ≤ R.slots) (hd : decode cc pc = .ok (.newarray .long, 2)) (kk : ∀ x : Nat, j_V p l e R s m args below meth c Q G nL A (k9 + 1) (q9 + N) (ws ++ [(x, .inl (cA0, N, .inr (.inl (fun _ => 0))))]) (pc + 2) lo (.ref x :: st)) : j_V p l e R s m args below meth c Q G nL A k9 q9 ws pc lo (.int n :: st) := fun H locs ls hP hD hS h =>
  va_newa (atype := .long) (ty := .long) (a0 := (N, .inr (.inl (fun _ => 0)))) X.1.1 X.1.2.1 (X.1.2.2.2.2 _ harr) rfl X.2.1 hP hD hS hA (fun _ => rfl) hn hN hb hk hq hd (fun x cA H1 hK1 hP1 hD1 hS1 => by
    have e1 : cA = cA0 := by
      have g1 := (hK1.2 tys.length (cA, .long) (by simp)).2
      have g2 := (X.2.1.2 t0 _ ht).2
      exact Option.some.inj (g1.symm.trans g2)
    subst e1
    exact kk x H1 locs ls hP1 hD1 hS1 h)
theorem hw_feed : yX5_feed.cls = RX5 ∧ yX5_feed.cls ≠ "java/lang/invoke/MethodHandle" ∧ yX5_feed.cls ≠ "java/lang/invoke/VarHandle" ∧ (parseMethodDescriptor yX5_feed.desc).map (fun d => d.parameters.length) = some 5 := by decide +kernel
set_option maxRecDepth 100000 in
set_option maxHeartbeats 4000000 in
theorem w_feed_n (l : Launch) (G : va_G) (K : Nat × Nat × (Nat → Int32)) (cI cZ cT cB : ClassId) (o ho : Nat) (S : zS) (f : Nat → Int64) (a1 a2 a3 a4 a5 : Int32) (V : Int32) {post : Int32 → zS → Prop} (hV : ∀ r u, post r u → r = V) (hM : zI l G cI cZ cT o yX5_feed wsX5_feed { frames := 1, cells := 0, slots := 0, locals := 22 } [.ref (o + 0), .int a1, .int a2, .int a3, .int a4, .int a5] S post) : jI l G K (j_ty cI cZ cT cB) yL_feed wsL_feed { frames := 2, cells := 0, slots := 0, locals := 47 } ([(ho, .inl (cB, 1, .inr (.inl f)))] ++ z_w cI cZ cT o S) [.ref o, .int a1, .int a2, .int a3, .int a4, .int a5, .ref ho] 0 0 (fun r (u : (Nat → Int64) × zS) => r = nI 0 ∧ u.1 0 = V.toInt64) (fun u => [(ho, .inl (cB, 1, .inr (.inl u.1)))] ++ z_w cI cZ cT o u.2) := by
  refine j_ofW (cc := cL_feed) (maxL := 8) (hh := [(0, 16, 19, 13)]) (by decide) rfl (Nat.le_of_ble_eq_true rfl) ?_
  intro p e s m args below meth c X htab hZ
  have hA : ∀ q, s.heap.size ≤ q → (va_A ([(ho, .inl (cB, 1, .inr (.inl f)))] ++ z_w cI cZ cT o S) s.heap.size) q := fun _ h => Or.inr h
  refine j_aload X 6 dL_feed_0 rfl ?_
  refine j_iconst (v := nI 0) X (by decide) dL_feed_2 ?_
  refine j_aload_n X 0 dL_feed_3 rfl rfl ?_
  refine j_iload_n X 1 dL_feed_4 rfl rfl ?_
  refine j_iload_n X 2 dL_feed_5 rfl rfl ?_
  refine j_iload_n X 3 dL_feed_6 rfl rfl ?_
  refine j_iload X 4 dL_feed_7 rfl ?_
  refine j_iload X 5 dL_feed_9 rfl ?_
  refine j_callZI X hA hZ (rest := [.int (nI 0), .ref ho]) [(ho, .inl (cB, 1, .inr (.inl f)))] [.int a1, .int a2, .int a3, .int a4, .int a5] hM 5 rfl gL_feed_X5_feed rfl ⟨rfl, rfl⟩ hw_feed ⟨Nat.le_of_ble_eq_true rfl, Nat.le_of_ble_eq_true rfl⟩ rfl (Nat.le_of_ble_eq_true rfl) ⟨Nat.le_of_ble_eq_true rfl, Nat.le_of_ble_eq_true rfl⟩ dL_feed_11 (fun r9 u9 h9 => ?_)
  refine j_i2l X dL_feed_14 ?_
  refine j_last X 0 3 rfl rfl 0 rfl (by decide) (by decide) dL_feed_15 ?_
  refine j_weq (ws' := [(ho, .inl (cB, 1, .inr (.inl (vp_updL f 0 r9.toInt64))))] ++ z_w cI cZ cT o u9) rfl ?_
  refine j_goto X (tgt := 23) dL_feed_16 (by decide) ?_
  refine j_iconst (v := nI 0) X (by decide) dL_feed_23 ?_
  exact j_iret X (vp_updL f 0 r9.toInt64, u9) rfl dL_feed_24 ⟨rfl, by show vp_updL f 0 r9.toInt64 0 = V.toInt64; rw [hV r9 u9 h9]; exact if_pos rfl⟩
theorem wl_feed_ISE : Cond.classLink RL 13 "java/lang/IllegalStateException" ∈ wsL_feed := by decide +kernel
set_option maxRecDepth 100000 in
set_option maxHeartbeats 4000000 in
theorem w_feed_ISE (l : Launch) (G : va_G) (K : Nat × Nat × (Nat → Int32)) (cI cZ cT cB : ClassId) (o ho : Nat) (S : zS) (f : Nat → Int64) (a1 a2 a3 a4 a5 : Int32) (hM : zX l G cI cZ cT o yX5_feed wsX5_feed { frames := 6, cells := 1, slots := 6, locals := 82 } [.ref (o + 0), .int a1, .int a2, .int a3, .int a4, .int a5] S "java/lang/IllegalStateException") : jI l G K (j_ty cI cZ cT cB) yL_feed wsL_feed { frames := 7, cells := 1, slots := 6, locals := 107 } ([(ho, .inl (cB, 1, .inr (.inl f)))] ++ z_w cI cZ cT o S) [.ref o, .int a1, .int a2, .int a3, .int a4, .int a5, .ref ho] 1 6 (fun r (u : (Nat → Int64) × zS) => r = nI 1) (fun u => [(ho, .inl (cB, 1, .inr (.inl u.1)))] ++ z_w cI cZ cT o u.2) := by
  refine j_ofW (cc := cL_feed) (maxL := 8) (hh := [(0, 16, 19, 13)]) (by decide) rfl (Nat.le_of_ble_eq_true rfl) ?_
  intro p e s m args below meth c X htab hZ
  have hA : ∀ q, s.heap.size ≤ q → (va_A ([(ho, .inl (cB, 1, .inr (.inl f)))] ++ z_w cI cZ cT o S) s.heap.size) q := fun _ h => Or.inr h
  refine j_aload X 6 dL_feed_0 rfl ?_
  refine j_iconst (v := nI 0) X (by decide) dL_feed_2 ?_
  refine j_aload_n X 0 dL_feed_3 rfl rfl ?_
  refine j_iload_n X 1 dL_feed_4 rfl rfl ?_
  refine j_iload_n X 2 dL_feed_5 rfl rfl ?_
  refine j_iload_n X 3 dL_feed_6 rfl rfl ?_
  refine j_iload X 4 dL_feed_7 rfl ?_
  refine j_iload X 5 dL_feed_9 rfl ?_
  refine x_callX X hA hZ (rest := [.int (nI 0), .ref ho]) [(ho, .inl (cB, 1, .inr (.inl f)))] [.int a1, .int a2, .int a3, .int a4, .int a5] hM 5 rfl gL_feed_X5_feed rfl ⟨rfl, rfl⟩ hw_feed ⟨Nat.le_of_ble_eq_true rfl, Nat.le_of_ble_eq_true rfl⟩ rfl (Nat.le_of_ble_eq_true rfl) ⟨Nat.le_of_ble_eq_true rfl, Nat.le_of_ble_eq_true rfl⟩ dL_feed_11 [] (⟨0, 16, 19, 13⟩ : ExceptionTableEntry) [] (htab.trans rfl) (fun z hz => absurd hz List.not_mem_nil) (by decide) (by decide) wl_feed_ISE (by decide +kernel) (fun qe => ?_)
  refine j_astore X dL_feed_19 (by decide) rfl ?_
  refine j_iconst (v := nI 1) X (by decide) dL_feed_21 ?_
  exact j_iret X (f, S) rfl dL_feed_22 rfl
theorem hw_trim : yX5_trim.cls = RX5 ∧ yX5_trim.cls ≠ "java/lang/invoke/MethodHandle" ∧ yX5_trim.cls ≠ "java/lang/invoke/VarHandle" ∧ (parseMethodDescriptor yX5_trim.desc).map (fun d => d.parameters.length) = some 1 := by decide +kernel
set_option maxRecDepth 100000 in
set_option maxHeartbeats 4000000 in
theorem w_trim_n (l : Launch) (G : va_G) (K : Nat × Nat × (Nat → Int32)) (cI cZ cT cB : ClassId) (o ho : Nat) (S : zS) (f : Nat → Int64) (a1 : Int32) (V : Int32) {post : Int32 → zS → Prop} (hV : ∀ r u, post r u → r = V) (hM : zI l G cI cZ cT o yX5_trim wsX5_trim { frames := 0, cells := 0, slots := 0, locals := 0 } [.ref (o + 0), .int a1] S post) : jI l G K (j_ty cI cZ cT cB) yL_trim wsL_trim { frames := 1, cells := 0, slots := 0, locals := 21 } ([(ho, .inl (cB, 1, .inr (.inl f)))] ++ z_w cI cZ cT o S) [.ref o, .int a1, .ref ho] 0 0 (fun r (u : (Nat → Int64) × zS) => r = nI 0 ∧ u.1 0 = V.toInt64) (fun u => [(ho, .inl (cB, 1, .inr (.inl u.1)))] ++ z_w cI cZ cT o u.2) := by
  refine j_ofW (cc := cL_trim) (maxL := 4) (hh := [(0, 9, 12, 19)]) (by decide) rfl (Nat.le_of_ble_eq_true rfl) ?_
  intro p e s m args below meth c X htab hZ
  have hA : ∀ q, s.heap.size ≤ q → (va_A ([(ho, .inl (cB, 1, .inr (.inl f)))] ++ z_w cI cZ cT o S) s.heap.size) q := fun _ h => Or.inr h
  refine j_aload_n X 2 dL_trim_0 rfl rfl ?_
  refine j_iconst (v := nI 0) X (by decide) dL_trim_1 ?_
  refine j_aload_n X 0 dL_trim_2 rfl rfl ?_
  refine j_iload_n X 1 dL_trim_3 rfl rfl ?_
  refine j_callZI X hA hZ (rest := [.int (nI 0), .ref ho]) [(ho, .inl (cB, 1, .inr (.inl f)))] [.int a1] hM 1 rfl gL_trim_X5_trim rfl ⟨rfl, rfl⟩ hw_trim ⟨Nat.le_of_ble_eq_true rfl, Nat.le_of_ble_eq_true rfl⟩ rfl (Nat.le_of_ble_eq_true rfl) ⟨Nat.le_of_ble_eq_true rfl, Nat.le_of_ble_eq_true rfl⟩ dL_trim_4 (fun r9 u9 h9 => ?_)
  refine j_i2l X dL_trim_7 ?_
  refine j_last X 0 3 rfl rfl 0 rfl (by decide) (by decide) dL_trim_8 ?_
  refine j_weq (ws' := [(ho, .inl (cB, 1, .inr (.inl (vp_updL f 0 r9.toInt64))))] ++ z_w cI cZ cT o u9) rfl ?_
  refine j_goto X (tgt := 15) dL_trim_9 (by decide) ?_
  refine j_iconst (v := nI 0) X (by decide) dL_trim_15 ?_
  exact j_iret X (vp_updL f 0 r9.toInt64, u9) rfl dL_trim_16 ⟨rfl, by show vp_updL f 0 r9.toInt64 0 = V.toInt64; rw [hV r9 u9 h9]; exact if_pos rfl⟩
theorem wl_trim_IAE : Cond.classLink RL 19 "java/lang/IllegalArgumentException" ∈ wsL_trim := by decide +kernel
set_option maxRecDepth 100000 in
set_option maxHeartbeats 4000000 in
theorem w_trim_IAE (l : Launch) (G : va_G) (K : Nat × Nat × (Nat → Int32)) (cI cZ cT cB : ClassId) (o ho : Nat) (S : zS) (f : Nat → Int64) (a1 : Int32) (hM : zX l G cI cZ cT o yX5_trim wsX5_trim { frames := 6, cells := 1, slots := 6, locals := 82 } [.ref (o + 0), .int a1] S "java/lang/IllegalArgumentException") : jI l G K (j_ty cI cZ cT cB) yL_trim wsL_trim { frames := 7, cells := 1, slots := 6, locals := 103 } ([(ho, .inl (cB, 1, .inr (.inl f)))] ++ z_w cI cZ cT o S) [.ref o, .int a1, .ref ho] 1 6 (fun r (u : (Nat → Int64) × zS) => r = nI 1) (fun u => [(ho, .inl (cB, 1, .inr (.inl u.1)))] ++ z_w cI cZ cT o u.2) := by
  refine j_ofW (cc := cL_trim) (maxL := 4) (hh := [(0, 9, 12, 19)]) (by decide) rfl (Nat.le_of_ble_eq_true rfl) ?_
  intro p e s m args below meth c X htab hZ
  have hA : ∀ q, s.heap.size ≤ q → (va_A ([(ho, .inl (cB, 1, .inr (.inl f)))] ++ z_w cI cZ cT o S) s.heap.size) q := fun _ h => Or.inr h
  refine j_aload_n X 2 dL_trim_0 rfl rfl ?_
  refine j_iconst (v := nI 0) X (by decide) dL_trim_1 ?_
  refine j_aload_n X 0 dL_trim_2 rfl rfl ?_
  refine j_iload_n X 1 dL_trim_3 rfl rfl ?_
  refine x_callX X hA hZ (rest := [.int (nI 0), .ref ho]) [(ho, .inl (cB, 1, .inr (.inl f)))] [.int a1] hM 1 rfl gL_trim_X5_trim rfl ⟨rfl, rfl⟩ hw_trim ⟨Nat.le_of_ble_eq_true rfl, Nat.le_of_ble_eq_true rfl⟩ rfl (Nat.le_of_ble_eq_true rfl) ⟨Nat.le_of_ble_eq_true rfl, Nat.le_of_ble_eq_true rfl⟩ dL_trim_4 [] (⟨0, 9, 12, 19⟩ : ExceptionTableEntry) [] (htab.trans rfl) (fun z hz => absurd hz List.not_mem_nil) (by decide) (by decide) wl_trim_IAE (by decide +kernel) (fun qe => ?_)
  refine j_astore_n X dL_trim_12 rfl (by decide) rfl ?_
  refine j_iconst (v := nI 1) X (by decide) dL_trim_13 ?_
  exact j_iret X (f, S) rfl dL_trim_14 rfl
theorem hw_openAt : yX5_openAt.cls = RX5 ∧ yX5_openAt.cls ≠ "java/lang/invoke/MethodHandle" ∧ yX5_openAt.cls ≠ "java/lang/invoke/VarHandle" ∧ (parseMethodDescriptor yX5_openAt.desc).map (fun d => d.parameters.length) = some 2 := by decide +kernel
set_option maxRecDepth 100000 in
set_option maxHeartbeats 4000000 in
theorem w_openAt_n (l : Launch) (G : va_G) (K : Nat × Nat × (Nat → Int32)) (cI cZ cT cB : ClassId) (o ho : Nat) (S : zS) (f : Nat → Int64) (a1 a2 : Int32) (V : Int32) {post : Int32 → zS → Prop} (hV : ∀ r u, post r u → r = V) (hM : zI l G cI cZ cT o yX5_openAt wsX5_openAt { frames := 2, cells := 0, slots := 0, locals := 42 } [.ref (o + 0), .int a1, .int a2] S post) : jI l G K (j_ty cI cZ cT cB) yL_openAt wsL_openAt { frames := 3, cells := 0, slots := 0, locals := 66 } ([(ho, .inl (cB, 1, .inr (.inl f)))] ++ z_w cI cZ cT o S) [.ref o, .int a1, .int a2, .ref ho] 0 0 (fun r (u : (Nat → Int64) × zS) => r = nI 0 ∧ u.1 0 = V.toInt64) (fun u => [(ho, .inl (cB, 1, .inr (.inl u.1)))] ++ z_w cI cZ cT o u.2) := by
  refine j_ofW (cc := cL_openAt) (maxL := 5) (hh := [(0, 10, 13, 25), (0, 10, 17, 13)]) (by decide) rfl (Nat.le_of_ble_eq_true rfl) ?_
  intro p e s m args below meth c X htab hZ
  have hA : ∀ q, s.heap.size ≤ q → (va_A ([(ho, .inl (cB, 1, .inr (.inl f)))] ++ z_w cI cZ cT o S) s.heap.size) q := fun _ h => Or.inr h
  refine j_aload_n X 3 dL_openAt_0 rfl rfl ?_
  refine j_iconst (v := nI 0) X (by decide) dL_openAt_1 ?_
  refine j_aload_n X 0 dL_openAt_2 rfl rfl ?_
  refine j_iload_n X 1 dL_openAt_3 rfl rfl ?_
  refine j_iload_n X 2 dL_openAt_4 rfl rfl ?_
  refine j_callZI X hA hZ (rest := [.int (nI 0), .ref ho]) [(ho, .inl (cB, 1, .inr (.inl f)))] [.int a1, .int a2] hM 2 rfl gL_openAt_X5_openAt rfl ⟨rfl, rfl⟩ hw_openAt ⟨Nat.le_of_ble_eq_true rfl, Nat.le_of_ble_eq_true rfl⟩ rfl (Nat.le_of_ble_eq_true rfl) ⟨Nat.le_of_ble_eq_true rfl, Nat.le_of_ble_eq_true rfl⟩ dL_openAt_5 (fun r9 u9 h9 => ?_)
  refine j_i2l X dL_openAt_8 ?_
  refine j_last X 0 3 rfl rfl 0 rfl (by decide) (by decide) dL_openAt_9 ?_
  refine j_weq (ws' := [(ho, .inl (cB, 1, .inr (.inl (vp_updL f 0 r9.toInt64))))] ++ z_w cI cZ cT o u9) rfl ?_
  refine j_goto X (tgt := 21) dL_openAt_10 (by decide) ?_
  refine j_iconst (v := nI 0) X (by decide) dL_openAt_21 ?_
  exact j_iret X (vp_updL f 0 r9.toInt64, u9) rfl dL_openAt_22 ⟨rfl, by show vp_updL f 0 r9.toInt64 0 = V.toInt64; rw [hV r9 u9 h9]; exact if_pos rfl⟩
theorem wl_openAt_IOB : Cond.classLink RL 25 "java/lang/IndexOutOfBoundsException" ∈ wsL_openAt := by decide +kernel
set_option maxRecDepth 100000 in
set_option maxHeartbeats 4000000 in
theorem w_openAt_IOB (l : Launch) (G : va_G) (K : Nat × Nat × (Nat → Int32)) (cI cZ cT cB : ClassId) (o ho : Nat) (S : zS) (f : Nat → Int64) (a1 a2 : Int32) (hM : zX l G cI cZ cT o yX5_openAt wsX5_openAt { frames := 6, cells := 1, slots := 6, locals := 82 } [.ref (o + 0), .int a1, .int a2] S "java/lang/IndexOutOfBoundsException") : jI l G K (j_ty cI cZ cT cB) yL_openAt wsL_openAt { frames := 7, cells := 1, slots := 6, locals := 106 } ([(ho, .inl (cB, 1, .inr (.inl f)))] ++ z_w cI cZ cT o S) [.ref o, .int a1, .int a2, .ref ho] 1 6 (fun r (u : (Nat → Int64) × zS) => r = nI 1) (fun u => [(ho, .inl (cB, 1, .inr (.inl u.1)))] ++ z_w cI cZ cT o u.2) := by
  refine j_ofW (cc := cL_openAt) (maxL := 5) (hh := [(0, 10, 13, 25), (0, 10, 17, 13)]) (by decide) rfl (Nat.le_of_ble_eq_true rfl) ?_
  intro p e s m args below meth c X htab hZ
  have hA : ∀ q, s.heap.size ≤ q → (va_A ([(ho, .inl (cB, 1, .inr (.inl f)))] ++ z_w cI cZ cT o S) s.heap.size) q := fun _ h => Or.inr h
  refine j_aload_n X 3 dL_openAt_0 rfl rfl ?_
  refine j_iconst (v := nI 0) X (by decide) dL_openAt_1 ?_
  refine j_aload_n X 0 dL_openAt_2 rfl rfl ?_
  refine j_iload_n X 1 dL_openAt_3 rfl rfl ?_
  refine j_iload_n X 2 dL_openAt_4 rfl rfl ?_
  refine x_callX X hA hZ (rest := [.int (nI 0), .ref ho]) [(ho, .inl (cB, 1, .inr (.inl f)))] [.int a1, .int a2] hM 2 rfl gL_openAt_X5_openAt rfl ⟨rfl, rfl⟩ hw_openAt ⟨Nat.le_of_ble_eq_true rfl, Nat.le_of_ble_eq_true rfl⟩ rfl (Nat.le_of_ble_eq_true rfl) ⟨Nat.le_of_ble_eq_true rfl, Nat.le_of_ble_eq_true rfl⟩ dL_openAt_5 [] (⟨0, 10, 13, 25⟩ : ExceptionTableEntry) [(⟨0, 10, 17, 13⟩ : ExceptionTableEntry)] (htab.trans rfl) (fun z hz => absurd hz List.not_mem_nil) (by decide) (by decide) wl_openAt_IOB (by decide +kernel) (fun qe => ?_)
  refine j_astore X dL_openAt_13 (by decide) rfl ?_
  refine j_iconst (v := nI 1) X (by decide) dL_openAt_15 ?_
  exact j_iret X (f, S) rfl dL_openAt_16 rfl
theorem wl_openAt_ISE : Cond.classLink RL 13 "java/lang/IllegalStateException" ∈ wsL_openAt := by decide +kernel
set_option maxRecDepth 100000 in
set_option maxHeartbeats 4000000 in
theorem w_openAt_ISE (l : Launch) (G : va_G) (K : Nat × Nat × (Nat → Int32)) (cI cZ cT cB : ClassId) (o ho : Nat) (S : zS) (f : Nat → Int64) (a1 a2 : Int32) (hM : zX l G cI cZ cT o yX5_openAt wsX5_openAt { frames := 6, cells := 1, slots := 6, locals := 82 } [.ref (o + 0), .int a1, .int a2] S "java/lang/IllegalStateException") : jI l G K (j_ty cI cZ cT cB) yL_openAt wsL_openAt { frames := 7, cells := 1, slots := 6, locals := 106 } ([(ho, .inl (cB, 1, .inr (.inl f)))] ++ z_w cI cZ cT o S) [.ref o, .int a1, .int a2, .ref ho] 1 6 (fun r (u : (Nat → Int64) × zS) => r = nI 2) (fun u => [(ho, .inl (cB, 1, .inr (.inl u.1)))] ++ z_w cI cZ cT o u.2) := by
  refine j_ofW (cc := cL_openAt) (maxL := 5) (hh := [(0, 10, 13, 25), (0, 10, 17, 13)]) (by decide) rfl (Nat.le_of_ble_eq_true rfl) ?_
  intro p e s m args below meth c X htab hZ
  have hA : ∀ q, s.heap.size ≤ q → (va_A ([(ho, .inl (cB, 1, .inr (.inl f)))] ++ z_w cI cZ cT o S) s.heap.size) q := fun _ h => Or.inr h
  refine j_aload_n X 3 dL_openAt_0 rfl rfl ?_
  refine j_iconst (v := nI 0) X (by decide) dL_openAt_1 ?_
  refine j_aload_n X 0 dL_openAt_2 rfl rfl ?_
  refine j_iload_n X 1 dL_openAt_3 rfl rfl ?_
  refine j_iload_n X 2 dL_openAt_4 rfl rfl ?_
  refine x_callX X hA hZ (rest := [.int (nI 0), .ref ho]) [(ho, .inl (cB, 1, .inr (.inl f)))] [.int a1, .int a2] hM 2 rfl gL_openAt_X5_openAt rfl ⟨rfl, rfl⟩ hw_openAt ⟨Nat.le_of_ble_eq_true rfl, Nat.le_of_ble_eq_true rfl⟩ rfl (Nat.le_of_ble_eq_true rfl) ⟨Nat.le_of_ble_eq_true rfl, Nat.le_of_ble_eq_true rfl⟩ dL_openAt_5 [(⟨0, 10, 13, 25⟩ : ExceptionTableEntry)] (⟨0, 10, 17, 13⟩ : ExceptionTableEntry) [] (htab.trans rfl) (fun z hz => by
      simp only [List.mem_cons, List.not_mem_nil, or_false] at hz
      rcases hz with rfl
      · exact ⟨by decide, "java/lang/IndexOutOfBoundsException", wl_openAt_IOB, hZ.2.2.2.1.2.2.1.2 ("java/lang/IllegalStateException", "java/lang/IndexOutOfBoundsException") (by decide +kernel)⟩) (by decide) (by decide) wl_openAt_ISE (by decide +kernel) (fun qe => ?_)
  refine j_astore X dL_openAt_17 (by decide) rfl ?_
  refine j_iconst (v := nI 2) X (by decide) dL_openAt_19 ?_
  exact j_iret X (f, S) rfl dL_openAt_20 rfl
theorem hw_cell : yX5_cell.cls = RX5 ∧ yX5_cell.cls ≠ "java/lang/invoke/MethodHandle" ∧ yX5_cell.cls ≠ "java/lang/invoke/VarHandle" ∧ (parseMethodDescriptor yX5_cell.desc).map (fun d => d.parameters.length) = some 3 := by decide +kernel
set_option maxRecDepth 100000 in
set_option maxHeartbeats 4000000 in
theorem w_cell_n (l : Launch) (G : va_G) (K : Nat × Nat × (Nat → Int32)) (cI cZ cT cB : ClassId) (o ho : Nat) (S : zS) (f : Nat → Int64) (a1 a2 a3 : Int32) (V : Int32) {post : Int32 → zS → Prop} (hV : ∀ r u, post r u → r = V) (hM : zI l G cI cZ cT o yX5_cell wsX5_cell { frames := 1, cells := 0, slots := 0, locals := 22 } [.ref (o + 0), .int a1, .int a2, .int a3] S post) : jI l G K (j_ty cI cZ cT cB) yL_cell wsL_cell { frames := 2, cells := 0, slots := 0, locals := 45 } ([(ho, .inl (cB, 1, .inr (.inl f)))] ++ z_w cI cZ cT o S) [.ref o, .int a1, .int a2, .int a3, .ref ho] 0 0 (fun r (u : (Nat → Int64) × zS) => r = nI 0 ∧ u.1 0 = V.toInt64) (fun u => [(ho, .inl (cB, 1, .inr (.inl u.1)))] ++ z_w cI cZ cT o u.2) := by
  refine j_ofW (cc := cL_cell) (maxL := 6) (hh := [(0, 12, 15, 25)]) (by decide) rfl (Nat.le_of_ble_eq_true rfl) ?_
  intro p e s m args below meth c X htab hZ
  have hA : ∀ q, s.heap.size ≤ q → (va_A ([(ho, .inl (cB, 1, .inr (.inl f)))] ++ z_w cI cZ cT o S) s.heap.size) q := fun _ h => Or.inr h
  refine j_aload X 4 dL_cell_0 rfl ?_
  refine j_iconst (v := nI 0) X (by decide) dL_cell_2 ?_
  refine j_aload_n X 0 dL_cell_3 rfl rfl ?_
  refine j_iload_n X 1 dL_cell_4 rfl rfl ?_
  refine j_iload_n X 2 dL_cell_5 rfl rfl ?_
  refine j_iload_n X 3 dL_cell_6 rfl rfl ?_
  refine j_callZI X hA hZ (rest := [.int (nI 0), .ref ho]) [(ho, .inl (cB, 1, .inr (.inl f)))] [.int a1, .int a2, .int a3] hM 3 rfl gL_cell_X5_cell rfl ⟨rfl, rfl⟩ hw_cell ⟨Nat.le_of_ble_eq_true rfl, Nat.le_of_ble_eq_true rfl⟩ rfl (Nat.le_of_ble_eq_true rfl) ⟨Nat.le_of_ble_eq_true rfl, Nat.le_of_ble_eq_true rfl⟩ dL_cell_7 (fun r9 u9 h9 => ?_)
  refine j_i2l X dL_cell_10 ?_
  refine j_last X 0 3 rfl rfl 0 rfl (by decide) (by decide) dL_cell_11 ?_
  refine j_weq (ws' := [(ho, .inl (cB, 1, .inr (.inl (vp_updL f 0 r9.toInt64))))] ++ z_w cI cZ cT o u9) rfl ?_
  refine j_goto X (tgt := 19) dL_cell_12 (by decide) ?_
  refine j_iconst (v := nI 0) X (by decide) dL_cell_19 ?_
  exact j_iret X (vp_updL f 0 r9.toInt64, u9) rfl dL_cell_20 ⟨rfl, by show vp_updL f 0 r9.toInt64 0 = V.toInt64; rw [hV r9 u9 h9]; exact if_pos rfl⟩
theorem wl_cell_IOB : Cond.classLink RL 25 "java/lang/IndexOutOfBoundsException" ∈ wsL_cell := by decide +kernel
set_option maxRecDepth 100000 in
set_option maxHeartbeats 4000000 in
theorem w_cell_IOB (l : Launch) (G : va_G) (K : Nat × Nat × (Nat → Int32)) (cI cZ cT cB : ClassId) (o ho : Nat) (S : zS) (f : Nat → Int64) (a1 a2 a3 : Int32) (hM : zX l G cI cZ cT o yX5_cell wsX5_cell { frames := 6, cells := 1, slots := 6, locals := 82 } [.ref (o + 0), .int a1, .int a2, .int a3] S "java/lang/IndexOutOfBoundsException") : jI l G K (j_ty cI cZ cT cB) yL_cell wsL_cell { frames := 7, cells := 1, slots := 6, locals := 105 } ([(ho, .inl (cB, 1, .inr (.inl f)))] ++ z_w cI cZ cT o S) [.ref o, .int a1, .int a2, .int a3, .ref ho] 1 6 (fun r (u : (Nat → Int64) × zS) => r = nI 1) (fun u => [(ho, .inl (cB, 1, .inr (.inl u.1)))] ++ z_w cI cZ cT o u.2) := by
  refine j_ofW (cc := cL_cell) (maxL := 6) (hh := [(0, 12, 15, 25)]) (by decide) rfl (Nat.le_of_ble_eq_true rfl) ?_
  intro p e s m args below meth c X htab hZ
  have hA : ∀ q, s.heap.size ≤ q → (va_A ([(ho, .inl (cB, 1, .inr (.inl f)))] ++ z_w cI cZ cT o S) s.heap.size) q := fun _ h => Or.inr h
  refine j_aload X 4 dL_cell_0 rfl ?_
  refine j_iconst (v := nI 0) X (by decide) dL_cell_2 ?_
  refine j_aload_n X 0 dL_cell_3 rfl rfl ?_
  refine j_iload_n X 1 dL_cell_4 rfl rfl ?_
  refine j_iload_n X 2 dL_cell_5 rfl rfl ?_
  refine j_iload_n X 3 dL_cell_6 rfl rfl ?_
  refine x_callX X hA hZ (rest := [.int (nI 0), .ref ho]) [(ho, .inl (cB, 1, .inr (.inl f)))] [.int a1, .int a2, .int a3] hM 3 rfl gL_cell_X5_cell rfl ⟨rfl, rfl⟩ hw_cell ⟨Nat.le_of_ble_eq_true rfl, Nat.le_of_ble_eq_true rfl⟩ rfl (Nat.le_of_ble_eq_true rfl) ⟨Nat.le_of_ble_eq_true rfl, Nat.le_of_ble_eq_true rfl⟩ dL_cell_7 [] (⟨0, 12, 15, 25⟩ : ExceptionTableEntry) [] (htab.trans rfl) (fun z hz => absurd hz List.not_mem_nil) (by decide) (by decide) wl_cell_IOB (by decide +kernel) (fun qe => ?_)
  refine j_astore X dL_cell_15 (by decide) rfl ?_
  refine j_iconst (v := nI 1) X (by decide) dL_cell_17 ?_
  exact j_iret X (f, S) rfl dL_cell_18 rfl
theorem hw_come : yX5_come.cls = RX5 ∧ yX5_come.cls ≠ "java/lang/invoke/MethodHandle" ∧ yX5_come.cls ≠ "java/lang/invoke/VarHandle" ∧ (parseMethodDescriptor yX5_come.desc).map (fun d => d.parameters.length) = some 5 := by decide +kernel
theorem wl_come_IOB : Cond.classLink RL 25 "java/lang/IndexOutOfBoundsException" ∈ wsL_come := by decide +kernel
set_option maxRecDepth 100000 in
set_option maxHeartbeats 4000000 in
theorem w_come_IOB (l : Launch) (G : va_G) (K : Nat × Nat × (Nat → Int32)) (cI cZ cT cB : ClassId) (o ho : Nat) (S : zS) (f : Nat → Int64) (a1 a2 a3 a4 a5 : Int32) (hM : zX l G cI cZ cT o yX5_come wsX5_come { frames := 6, cells := 1, slots := 6, locals := 82 } [.ref (o + 0), .int a1, .int a2, .int a3, .int a4, .int a5] S "java/lang/IndexOutOfBoundsException") : jI l G K (j_ty cI cZ cT cB) yL_come wsL_come { frames := 7, cells := 1, slots := 6, locals := 109 } ([(ho, .inl (cB, 1, .inr (.inl f)))] ++ z_w cI cZ cT o S) [.ref o, .int a1, .int a2, .int a3, .int a4, .int a5, .ref ho] 1 6 (fun r (u : (Nat → Int64) × zS) => r = nI 1) (fun u => [(ho, .inl (cB, 1, .inr (.inl u.1)))] ++ z_w cI cZ cT o u.2) := by
  refine j_ofW (cc := cL_come) (maxL := 8) (hh := [(0, 16, 19, 25), (0, 16, 23, 19), (0, 16, 27, 13)]) (by decide) rfl (Nat.le_of_ble_eq_true rfl) ?_
  intro p e s m args below meth c X htab hZ
  have hA : ∀ q, s.heap.size ≤ q → (va_A ([(ho, .inl (cB, 1, .inr (.inl f)))] ++ z_w cI cZ cT o S) s.heap.size) q := fun _ h => Or.inr h
  refine j_aload X 6 dL_come_0 rfl ?_
  refine j_iconst (v := nI 0) X (by decide) dL_come_2 ?_
  refine j_aload_n X 0 dL_come_3 rfl rfl ?_
  refine j_iload_n X 1 dL_come_4 rfl rfl ?_
  refine j_iload_n X 2 dL_come_5 rfl rfl ?_
  refine j_iload_n X 3 dL_come_6 rfl rfl ?_
  refine j_iload X 4 dL_come_7 rfl ?_
  refine j_iload X 5 dL_come_9 rfl ?_
  refine x_callX X hA hZ (rest := [.int (nI 0), .ref ho]) [(ho, .inl (cB, 1, .inr (.inl f)))] [.int a1, .int a2, .int a3, .int a4, .int a5] hM 5 rfl gL_come_X5_come rfl ⟨rfl, rfl⟩ hw_come ⟨Nat.le_of_ble_eq_true rfl, Nat.le_of_ble_eq_true rfl⟩ rfl (Nat.le_of_ble_eq_true rfl) ⟨Nat.le_of_ble_eq_true rfl, Nat.le_of_ble_eq_true rfl⟩ dL_come_11 [] (⟨0, 16, 19, 25⟩ : ExceptionTableEntry) [(⟨0, 16, 23, 19⟩ : ExceptionTableEntry), (⟨0, 16, 27, 13⟩ : ExceptionTableEntry)] (htab.trans rfl) (fun z hz => absurd hz List.not_mem_nil) (by decide) (by decide) wl_come_IOB (by decide +kernel) (fun qe => ?_)
  refine j_astore X dL_come_19 (by decide) rfl ?_
  refine j_iconst (v := nI 1) X (by decide) dL_come_21 ?_
  exact j_iret X (f, S) rfl dL_come_22 rfl
theorem wl_come_IAE : Cond.classLink RL 19 "java/lang/IllegalArgumentException" ∈ wsL_come := by decide +kernel
set_option maxRecDepth 100000 in
set_option maxHeartbeats 4000000 in
theorem w_come_IAE (l : Launch) (G : va_G) (K : Nat × Nat × (Nat → Int32)) (cI cZ cT cB : ClassId) (o ho : Nat) (S : zS) (f : Nat → Int64) (a1 a2 a3 a4 a5 : Int32) (hM : zX l G cI cZ cT o yX5_come wsX5_come { frames := 6, cells := 1, slots := 6, locals := 82 } [.ref (o + 0), .int a1, .int a2, .int a3, .int a4, .int a5] S "java/lang/IllegalArgumentException") : jI l G K (j_ty cI cZ cT cB) yL_come wsL_come { frames := 7, cells := 1, slots := 6, locals := 109 } ([(ho, .inl (cB, 1, .inr (.inl f)))] ++ z_w cI cZ cT o S) [.ref o, .int a1, .int a2, .int a3, .int a4, .int a5, .ref ho] 1 6 (fun r (u : (Nat → Int64) × zS) => r = nI 2) (fun u => [(ho, .inl (cB, 1, .inr (.inl u.1)))] ++ z_w cI cZ cT o u.2) := by
  refine j_ofW (cc := cL_come) (maxL := 8) (hh := [(0, 16, 19, 25), (0, 16, 23, 19), (0, 16, 27, 13)]) (by decide) rfl (Nat.le_of_ble_eq_true rfl) ?_
  intro p e s m args below meth c X htab hZ
  have hA : ∀ q, s.heap.size ≤ q → (va_A ([(ho, .inl (cB, 1, .inr (.inl f)))] ++ z_w cI cZ cT o S) s.heap.size) q := fun _ h => Or.inr h
  refine j_aload X 6 dL_come_0 rfl ?_
  refine j_iconst (v := nI 0) X (by decide) dL_come_2 ?_
  refine j_aload_n X 0 dL_come_3 rfl rfl ?_
  refine j_iload_n X 1 dL_come_4 rfl rfl ?_
  refine j_iload_n X 2 dL_come_5 rfl rfl ?_
  refine j_iload_n X 3 dL_come_6 rfl rfl ?_
  refine j_iload X 4 dL_come_7 rfl ?_
  refine j_iload X 5 dL_come_9 rfl ?_
  refine x_callX X hA hZ (rest := [.int (nI 0), .ref ho]) [(ho, .inl (cB, 1, .inr (.inl f)))] [.int a1, .int a2, .int a3, .int a4, .int a5] hM 5 rfl gL_come_X5_come rfl ⟨rfl, rfl⟩ hw_come ⟨Nat.le_of_ble_eq_true rfl, Nat.le_of_ble_eq_true rfl⟩ rfl (Nat.le_of_ble_eq_true rfl) ⟨Nat.le_of_ble_eq_true rfl, Nat.le_of_ble_eq_true rfl⟩ dL_come_11 [(⟨0, 16, 19, 25⟩ : ExceptionTableEntry)] (⟨0, 16, 23, 19⟩ : ExceptionTableEntry) [(⟨0, 16, 27, 13⟩ : ExceptionTableEntry)] (htab.trans rfl) (fun z hz => by
      simp only [List.mem_cons, List.not_mem_nil, or_false] at hz
      rcases hz with rfl
      · exact ⟨by decide, "java/lang/IndexOutOfBoundsException", wl_come_IOB, hZ.2.2.2.1.2.2.1.2 ("java/lang/IllegalArgumentException", "java/lang/IndexOutOfBoundsException") (by decide +kernel)⟩) (by decide) (by decide) wl_come_IAE (by decide +kernel) (fun qe => ?_)
  refine j_astore X dL_come_23 (by decide) rfl ?_
  refine j_iconst (v := nI 2) X (by decide) dL_come_25 ?_
  exact j_iret X (f, S) rfl dL_come_26 rfl
theorem wl_come_ISE : Cond.classLink RL 13 "java/lang/IllegalStateException" ∈ wsL_come := by decide +kernel
set_option maxRecDepth 100000 in
set_option maxHeartbeats 4000000 in
theorem w_come_ISE (l : Launch) (G : va_G) (K : Nat × Nat × (Nat → Int32)) (cI cZ cT cB : ClassId) (o ho : Nat) (S : zS) (f : Nat → Int64) (a1 a2 a3 a4 a5 : Int32) (hM : zX l G cI cZ cT o yX5_come wsX5_come { frames := 6, cells := 1, slots := 6, locals := 82 } [.ref (o + 0), .int a1, .int a2, .int a3, .int a4, .int a5] S "java/lang/IllegalStateException") : jI l G K (j_ty cI cZ cT cB) yL_come wsL_come { frames := 7, cells := 1, slots := 6, locals := 109 } ([(ho, .inl (cB, 1, .inr (.inl f)))] ++ z_w cI cZ cT o S) [.ref o, .int a1, .int a2, .int a3, .int a4, .int a5, .ref ho] 1 6 (fun r (u : (Nat → Int64) × zS) => r = nI 3) (fun u => [(ho, .inl (cB, 1, .inr (.inl u.1)))] ++ z_w cI cZ cT o u.2) := by
  refine j_ofW (cc := cL_come) (maxL := 8) (hh := [(0, 16, 19, 25), (0, 16, 23, 19), (0, 16, 27, 13)]) (by decide) rfl (Nat.le_of_ble_eq_true rfl) ?_
  intro p e s m args below meth c X htab hZ
  have hA : ∀ q, s.heap.size ≤ q → (va_A ([(ho, .inl (cB, 1, .inr (.inl f)))] ++ z_w cI cZ cT o S) s.heap.size) q := fun _ h => Or.inr h
  refine j_aload X 6 dL_come_0 rfl ?_
  refine j_iconst (v := nI 0) X (by decide) dL_come_2 ?_
  refine j_aload_n X 0 dL_come_3 rfl rfl ?_
  refine j_iload_n X 1 dL_come_4 rfl rfl ?_
  refine j_iload_n X 2 dL_come_5 rfl rfl ?_
  refine j_iload_n X 3 dL_come_6 rfl rfl ?_
  refine j_iload X 4 dL_come_7 rfl ?_
  refine j_iload X 5 dL_come_9 rfl ?_
  refine x_callX X hA hZ (rest := [.int (nI 0), .ref ho]) [(ho, .inl (cB, 1, .inr (.inl f)))] [.int a1, .int a2, .int a3, .int a4, .int a5] hM 5 rfl gL_come_X5_come rfl ⟨rfl, rfl⟩ hw_come ⟨Nat.le_of_ble_eq_true rfl, Nat.le_of_ble_eq_true rfl⟩ rfl (Nat.le_of_ble_eq_true rfl) ⟨Nat.le_of_ble_eq_true rfl, Nat.le_of_ble_eq_true rfl⟩ dL_come_11 [(⟨0, 16, 19, 25⟩ : ExceptionTableEntry), (⟨0, 16, 23, 19⟩ : ExceptionTableEntry)] (⟨0, 16, 27, 13⟩ : ExceptionTableEntry) [] (htab.trans rfl) (fun z hz => by
      simp only [List.mem_cons, List.not_mem_nil, or_false] at hz
      rcases hz with rfl | rfl
      · exact ⟨by decide, "java/lang/IndexOutOfBoundsException", wl_come_IOB, hZ.2.2.2.1.2.2.1.2 ("java/lang/IllegalStateException", "java/lang/IndexOutOfBoundsException") (by decide +kernel)⟩
      · exact ⟨by decide, "java/lang/IllegalArgumentException", wl_come_IAE, hZ.2.2.2.1.2.2.1.2 ("java/lang/IllegalStateException", "java/lang/IllegalArgumentException") (by decide +kernel)⟩) (by decide) (by decide) wl_come_ISE (by decide +kernel) (fun qe => ?_)
  refine j_astore X dL_come_27 (by decide) rfl ?_
  refine j_iconst (v := nI 3) X (by decide) dL_come_29 ?_
  exact j_iret X (f, S) rfl dL_come_30 rfl
theorem hw_order : yX5_order.cls = RX5 ∧ yX5_order.cls ≠ "java/lang/invoke/MethodHandle" ∧ yX5_order.cls ≠ "java/lang/invoke/VarHandle" ∧ (parseMethodDescriptor yX5_order.desc).map (fun d => d.parameters.length) = some 4 := by decide +kernel
theorem wl_order_IOB : Cond.classLink RL 25 "java/lang/IndexOutOfBoundsException" ∈ wsL_order := by decide +kernel
set_option maxRecDepth 100000 in
set_option maxHeartbeats 4000000 in
theorem w_order_IOB (l : Launch) (G : va_G) (K : Nat × Nat × (Nat → Int32)) (cI cZ cT cB : ClassId) (o ho : Nat) (S : zS) (f : Nat → Int64) (a1 a2 a3 a4 : Int32) (hM : zX l G cI cZ cT o yX5_order wsX5_order { frames := 6, cells := 1, slots := 6, locals := 82 } [.ref (o + 0), .int a1, .int a2, .int a3, .int a4] S "java/lang/IndexOutOfBoundsException") : jI l G K (j_ty cI cZ cT cB) yL_order wsL_order { frames := 7, cells := 1, slots := 6, locals := 107 } ([(ho, .inl (cB, 1, .inr (.inl f)))] ++ z_w cI cZ cT o S) [.ref o, .int a1, .int a2, .int a3, .int a4, .ref ho] 1 6 (fun r (u : (Nat → Int64) × zS) => r = nI 1) (fun u => [(ho, .inl (cB, 1, .inr (.inl u.1)))] ++ z_w cI cZ cT o u.2) := by
  refine j_ofW (cc := cL_order) (maxL := 7) (hh := [(0, 14, 17, 25), (0, 14, 21, 19), (0, 14, 25, 13)]) (by decide) rfl (Nat.le_of_ble_eq_true rfl) ?_
  intro p e s m args below meth c X htab hZ
  have hA : ∀ q, s.heap.size ≤ q → (va_A ([(ho, .inl (cB, 1, .inr (.inl f)))] ++ z_w cI cZ cT o S) s.heap.size) q := fun _ h => Or.inr h
  refine j_aload X 5 dL_order_0 rfl ?_
  refine j_iconst (v := nI 0) X (by decide) dL_order_2 ?_
  refine j_aload_n X 0 dL_order_3 rfl rfl ?_
  refine j_iload_n X 1 dL_order_4 rfl rfl ?_
  refine j_iload_n X 2 dL_order_5 rfl rfl ?_
  refine j_iload_n X 3 dL_order_6 rfl rfl ?_
  refine j_iload X 4 dL_order_7 rfl ?_
  refine x_callX X hA hZ (rest := [.int (nI 0), .ref ho]) [(ho, .inl (cB, 1, .inr (.inl f)))] [.int a1, .int a2, .int a3, .int a4] hM 4 rfl gL_order_X5_order rfl ⟨rfl, rfl⟩ hw_order ⟨Nat.le_of_ble_eq_true rfl, Nat.le_of_ble_eq_true rfl⟩ rfl (Nat.le_of_ble_eq_true rfl) ⟨Nat.le_of_ble_eq_true rfl, Nat.le_of_ble_eq_true rfl⟩ dL_order_9 [] (⟨0, 14, 17, 25⟩ : ExceptionTableEntry) [(⟨0, 14, 21, 19⟩ : ExceptionTableEntry), (⟨0, 14, 25, 13⟩ : ExceptionTableEntry)] (htab.trans rfl) (fun z hz => absurd hz List.not_mem_nil) (by decide) (by decide) wl_order_IOB (by decide +kernel) (fun qe => ?_)
  refine j_astore X dL_order_17 (by decide) rfl ?_
  refine j_iconst (v := nI 1) X (by decide) dL_order_19 ?_
  exact j_iret X (f, S) rfl dL_order_20 rfl
theorem wl_order_IAE : Cond.classLink RL 19 "java/lang/IllegalArgumentException" ∈ wsL_order := by decide +kernel
set_option maxRecDepth 100000 in
set_option maxHeartbeats 4000000 in
theorem w_order_IAE (l : Launch) (G : va_G) (K : Nat × Nat × (Nat → Int32)) (cI cZ cT cB : ClassId) (o ho : Nat) (S : zS) (f : Nat → Int64) (a1 a2 a3 a4 : Int32) (hM : zX l G cI cZ cT o yX5_order wsX5_order { frames := 6, cells := 1, slots := 6, locals := 82 } [.ref (o + 0), .int a1, .int a2, .int a3, .int a4] S "java/lang/IllegalArgumentException") : jI l G K (j_ty cI cZ cT cB) yL_order wsL_order { frames := 7, cells := 1, slots := 6, locals := 107 } ([(ho, .inl (cB, 1, .inr (.inl f)))] ++ z_w cI cZ cT o S) [.ref o, .int a1, .int a2, .int a3, .int a4, .ref ho] 1 6 (fun r (u : (Nat → Int64) × zS) => r = nI 2) (fun u => [(ho, .inl (cB, 1, .inr (.inl u.1)))] ++ z_w cI cZ cT o u.2) := by
  refine j_ofW (cc := cL_order) (maxL := 7) (hh := [(0, 14, 17, 25), (0, 14, 21, 19), (0, 14, 25, 13)]) (by decide) rfl (Nat.le_of_ble_eq_true rfl) ?_
  intro p e s m args below meth c X htab hZ
  have hA : ∀ q, s.heap.size ≤ q → (va_A ([(ho, .inl (cB, 1, .inr (.inl f)))] ++ z_w cI cZ cT o S) s.heap.size) q := fun _ h => Or.inr h
  refine j_aload X 5 dL_order_0 rfl ?_
  refine j_iconst (v := nI 0) X (by decide) dL_order_2 ?_
  refine j_aload_n X 0 dL_order_3 rfl rfl ?_
  refine j_iload_n X 1 dL_order_4 rfl rfl ?_
  refine j_iload_n X 2 dL_order_5 rfl rfl ?_
  refine j_iload_n X 3 dL_order_6 rfl rfl ?_
  refine j_iload X 4 dL_order_7 rfl ?_
  refine x_callX X hA hZ (rest := [.int (nI 0), .ref ho]) [(ho, .inl (cB, 1, .inr (.inl f)))] [.int a1, .int a2, .int a3, .int a4] hM 4 rfl gL_order_X5_order rfl ⟨rfl, rfl⟩ hw_order ⟨Nat.le_of_ble_eq_true rfl, Nat.le_of_ble_eq_true rfl⟩ rfl (Nat.le_of_ble_eq_true rfl) ⟨Nat.le_of_ble_eq_true rfl, Nat.le_of_ble_eq_true rfl⟩ dL_order_9 [(⟨0, 14, 17, 25⟩ : ExceptionTableEntry)] (⟨0, 14, 21, 19⟩ : ExceptionTableEntry) [(⟨0, 14, 25, 13⟩ : ExceptionTableEntry)] (htab.trans rfl) (fun z hz => by
      simp only [List.mem_cons, List.not_mem_nil, or_false] at hz
      rcases hz with rfl
      · exact ⟨by decide, "java/lang/IndexOutOfBoundsException", wl_order_IOB, hZ.2.2.2.1.2.2.1.2 ("java/lang/IllegalArgumentException", "java/lang/IndexOutOfBoundsException") (by decide +kernel)⟩) (by decide) (by decide) wl_order_IAE (by decide +kernel) (fun qe => ?_)
  refine j_astore X dL_order_21 (by decide) rfl ?_
  refine j_iconst (v := nI 2) X (by decide) dL_order_23 ?_
  exact j_iret X (f, S) rfl dL_order_24 rfl
theorem wl_order_ISE : Cond.classLink RL 13 "java/lang/IllegalStateException" ∈ wsL_order := by decide +kernel
set_option maxRecDepth 100000 in
set_option maxHeartbeats 4000000 in
theorem w_order_ISE (l : Launch) (G : va_G) (K : Nat × Nat × (Nat → Int32)) (cI cZ cT cB : ClassId) (o ho : Nat) (S : zS) (f : Nat → Int64) (a1 a2 a3 a4 : Int32) (hM : zX l G cI cZ cT o yX5_order wsX5_order { frames := 6, cells := 1, slots := 6, locals := 82 } [.ref (o + 0), .int a1, .int a2, .int a3, .int a4] S "java/lang/IllegalStateException") : jI l G K (j_ty cI cZ cT cB) yL_order wsL_order { frames := 7, cells := 1, slots := 6, locals := 107 } ([(ho, .inl (cB, 1, .inr (.inl f)))] ++ z_w cI cZ cT o S) [.ref o, .int a1, .int a2, .int a3, .int a4, .ref ho] 1 6 (fun r (u : (Nat → Int64) × zS) => r = nI 3) (fun u => [(ho, .inl (cB, 1, .inr (.inl u.1)))] ++ z_w cI cZ cT o u.2) := by
  refine j_ofW (cc := cL_order) (maxL := 7) (hh := [(0, 14, 17, 25), (0, 14, 21, 19), (0, 14, 25, 13)]) (by decide) rfl (Nat.le_of_ble_eq_true rfl) ?_
  intro p e s m args below meth c X htab hZ
  have hA : ∀ q, s.heap.size ≤ q → (va_A ([(ho, .inl (cB, 1, .inr (.inl f)))] ++ z_w cI cZ cT o S) s.heap.size) q := fun _ h => Or.inr h
  refine j_aload X 5 dL_order_0 rfl ?_
  refine j_iconst (v := nI 0) X (by decide) dL_order_2 ?_
  refine j_aload_n X 0 dL_order_3 rfl rfl ?_
  refine j_iload_n X 1 dL_order_4 rfl rfl ?_
  refine j_iload_n X 2 dL_order_5 rfl rfl ?_
  refine j_iload_n X 3 dL_order_6 rfl rfl ?_
  refine j_iload X 4 dL_order_7 rfl ?_
  refine x_callX X hA hZ (rest := [.int (nI 0), .ref ho]) [(ho, .inl (cB, 1, .inr (.inl f)))] [.int a1, .int a2, .int a3, .int a4] hM 4 rfl gL_order_X5_order rfl ⟨rfl, rfl⟩ hw_order ⟨Nat.le_of_ble_eq_true rfl, Nat.le_of_ble_eq_true rfl⟩ rfl (Nat.le_of_ble_eq_true rfl) ⟨Nat.le_of_ble_eq_true rfl, Nat.le_of_ble_eq_true rfl⟩ dL_order_9 [(⟨0, 14, 17, 25⟩ : ExceptionTableEntry), (⟨0, 14, 21, 19⟩ : ExceptionTableEntry)] (⟨0, 14, 25, 13⟩ : ExceptionTableEntry) [] (htab.trans rfl) (fun z hz => by
      simp only [List.mem_cons, List.not_mem_nil, or_false] at hz
      rcases hz with rfl | rfl
      · exact ⟨by decide, "java/lang/IndexOutOfBoundsException", wl_order_IOB, hZ.2.2.2.1.2.2.1.2 ("java/lang/IllegalStateException", "java/lang/IndexOutOfBoundsException") (by decide +kernel)⟩
      · exact ⟨by decide, "java/lang/IllegalArgumentException", wl_order_IAE, hZ.2.2.2.1.2.2.1.2 ("java/lang/IllegalStateException", "java/lang/IllegalArgumentException") (by decide +kernel)⟩) (by decide) (by decide) wl_order_ISE (by decide +kernel) (fun qe => ?_)
  refine j_astore X dL_order_25 (by decide) rfl ?_
  refine j_iconst (v := nI 3) X (by decide) dL_order_27 ?_
  exact j_iret X (f, S) rfl dL_order_28 rfl
theorem hw_clear : yX5_clear.cls = RX5 ∧ yX5_clear.cls ≠ "java/lang/invoke/MethodHandle" ∧ yX5_clear.cls ≠ "java/lang/invoke/VarHandle" ∧ (parseMethodDescriptor yX5_clear.desc).map (fun d => d.parameters.length) = some 1 := by decide +kernel
theorem wl_clear_IOB : Cond.classLink RL 25 "java/lang/IndexOutOfBoundsException" ∈ wsL_clear := by decide +kernel
set_option maxRecDepth 100000 in
set_option maxHeartbeats 4000000 in
theorem w_clear_IOB (l : Launch) (G : va_G) (K : Nat × Nat × (Nat → Int32)) (cI cZ cT cB : ClassId) (o ho : Nat) (S : zS) (f : Nat → Int64) (a1 : Int32) (hM : zX l G cI cZ cT o yX5_clear wsX5_clear { frames := 6, cells := 1, slots := 6, locals := 82 } [.ref (o + 0), .int a1] S "java/lang/IndexOutOfBoundsException") : jI l G K (j_ty cI cZ cT cB) yL_clear wsL_clear { frames := 7, cells := 1, slots := 6, locals := 104 } ([(ho, .inl (cB, 1, .inr (.inl f)))] ++ z_w cI cZ cT o S) [.ref o, .int a1, .ref ho] 1 6 (fun r (u : (Nat → Int64) × zS) => r = nI 1) (fun u => [(ho, .inl (cB, 1, .inr (.inl u.1)))] ++ z_w cI cZ cT o u.2) := by
  refine j_ofW (cc := cL_clear) (maxL := 4) (hh := [(0, 9, 12, 25)]) (by decide) rfl (Nat.le_of_ble_eq_true rfl) ?_
  intro p e s m args below meth c X htab hZ
  have hA : ∀ q, s.heap.size ≤ q → (va_A ([(ho, .inl (cB, 1, .inr (.inl f)))] ++ z_w cI cZ cT o S) s.heap.size) q := fun _ h => Or.inr h
  refine j_aload_n X 2 dL_clear_0 rfl rfl ?_
  refine j_iconst (v := nI 0) X (by decide) dL_clear_1 ?_
  refine j_aload_n X 0 dL_clear_2 rfl rfl ?_
  refine j_iload_n X 1 dL_clear_3 rfl rfl ?_
  refine x_callX X hA hZ (rest := [.int (nI 0), .ref ho]) [(ho, .inl (cB, 1, .inr (.inl f)))] [.int a1] hM 1 rfl gL_clear_X5_clear rfl ⟨rfl, rfl⟩ hw_clear ⟨Nat.le_of_ble_eq_true rfl, Nat.le_of_ble_eq_true rfl⟩ rfl (Nat.le_of_ble_eq_true rfl) ⟨Nat.le_of_ble_eq_true rfl, Nat.le_of_ble_eq_true rfl⟩ dL_clear_4 [] (⟨0, 9, 12, 25⟩ : ExceptionTableEntry) [] (htab.trans rfl) (fun z hz => absurd hz List.not_mem_nil) (by decide) (by decide) wl_clear_IOB (by decide +kernel) (fun qe => ?_)
  refine j_astore_n X dL_clear_12 rfl (by decide) rfl ?_
  refine j_iconst (v := nI 1) X (by decide) dL_clear_13 ?_
  exact j_iret X (f, S) rfl dL_clear_14 rfl
theorem hw_team : yX5_team.cls = RX5 ∧ yX5_team.cls ≠ "java/lang/invoke/MethodHandle" ∧ yX5_team.cls ≠ "java/lang/invoke/VarHandle" ∧ (parseMethodDescriptor yX5_team.desc).map (fun d => d.parameters.length) = some 2 := by decide +kernel
theorem wl_team_IOB : Cond.classLink RL 25 "java/lang/IndexOutOfBoundsException" ∈ wsL_team := by decide +kernel
set_option maxRecDepth 100000 in
set_option maxHeartbeats 4000000 in
theorem w_team_IOB (l : Launch) (G : va_G) (K : Nat × Nat × (Nat → Int32)) (cI cZ cT cB : ClassId) (o ho : Nat) (S : zS) (f : Nat → Int64) (a1 a2 : Int32) (hM : zX l G cI cZ cT o yX5_team wsX5_team { frames := 6, cells := 1, slots := 6, locals := 82 } [.ref (o + 0), .int a1, .int a2] S "java/lang/IndexOutOfBoundsException") : jI l G K (j_ty cI cZ cT cB) yL_team wsL_team { frames := 7, cells := 1, slots := 6, locals := 104 } ([(ho, .inl (cB, 1, .inr (.inl f)))] ++ z_w cI cZ cT o S) [.ref o, .int a1, .int a2, .ref ho] 1 6 (fun r (u : (Nat → Int64) × zS) => r = nI 1) (fun u => [(ho, .inl (cB, 1, .inr (.inl u.1)))] ++ z_w cI cZ cT o u.2) := by
  refine j_ofW (cc := cL_team) (maxL := 5) (hh := [(0, 10, 13, 25)]) (by decide) rfl (Nat.le_of_ble_eq_true rfl) ?_
  intro p e s m args below meth c X htab hZ
  have hA : ∀ q, s.heap.size ≤ q → (va_A ([(ho, .inl (cB, 1, .inr (.inl f)))] ++ z_w cI cZ cT o S) s.heap.size) q := fun _ h => Or.inr h
  refine j_aload_n X 3 dL_team_0 rfl rfl ?_
  refine j_iconst (v := nI 0) X (by decide) dL_team_1 ?_
  refine j_aload_n X 0 dL_team_2 rfl rfl ?_
  refine j_iload_n X 1 dL_team_3 rfl rfl ?_
  refine j_iload_n X 2 dL_team_4 rfl rfl ?_
  refine x_callX X hA hZ (rest := [.int (nI 0), .ref ho]) [(ho, .inl (cB, 1, .inr (.inl f)))] [.int a1, .int a2] hM 2 rfl gL_team_X5_team rfl ⟨rfl, rfl⟩ hw_team ⟨Nat.le_of_ble_eq_true rfl, Nat.le_of_ble_eq_true rfl⟩ rfl (Nat.le_of_ble_eq_true rfl) ⟨Nat.le_of_ble_eq_true rfl, Nat.le_of_ble_eq_true rfl⟩ dL_team_5 [] (⟨0, 10, 13, 25⟩ : ExceptionTableEntry) [] (htab.trans rfl) (fun z hz => absurd hz List.not_mem_nil) (by decide) (by decide) wl_team_IOB (by decide +kernel) (fun qe => ?_)
  refine j_astore X dL_team_13 (by decide) rfl ?_
  refine j_iconst (v := nI 1) X (by decide) dL_team_15 ?_
  exact j_iret X (f, S) rfl dL_team_16 rfl
theorem hw_heard : yX5_heard.cls = RX5 ∧ yX5_heard.cls ≠ "java/lang/invoke/MethodHandle" ∧ yX5_heard.cls ≠ "java/lang/invoke/VarHandle" ∧ (parseMethodDescriptor yX5_heard.desc).map (fun d => d.parameters.length) = some 2 := by decide +kernel
theorem wl_heard_IOB : Cond.classLink RL 25 "java/lang/IndexOutOfBoundsException" ∈ wsL_heard := by decide +kernel
set_option maxRecDepth 100000 in
set_option maxHeartbeats 4000000 in
theorem w_heard_IOB (l : Launch) (G : va_G) (K : Nat × Nat × (Nat → Int32)) (cI cZ cT cB : ClassId) (o ho : Nat) (S : zS) (f : Nat → Int64) (a1 a2 : Int32) (hM : zX l G cI cZ cT o yX5_heard wsX5_heard { frames := 6, cells := 1, slots := 6, locals := 82 } [.ref (o + 0), .int a1, .int a2] S "java/lang/IndexOutOfBoundsException") : jI l G K (j_ty cI cZ cT cB) yL_heard wsL_heard { frames := 7, cells := 1, slots := 6, locals := 104 } ([(ho, .inl (cB, 1, .inr (.inl f)))] ++ z_w cI cZ cT o S) [.ref o, .int a1, .int a2, .ref ho] 1 6 (fun r (u : (Nat → Int64) × zS) => r = nI 1) (fun u => [(ho, .inl (cB, 1, .inr (.inl u.1)))] ++ z_w cI cZ cT o u.2) := by
  refine j_ofW (cc := cL_heard) (maxL := 5) (hh := [(0, 10, 13, 25)]) (by decide) rfl (Nat.le_of_ble_eq_true rfl) ?_
  intro p e s m args below meth c X htab hZ
  have hA : ∀ q, s.heap.size ≤ q → (va_A ([(ho, .inl (cB, 1, .inr (.inl f)))] ++ z_w cI cZ cT o S) s.heap.size) q := fun _ h => Or.inr h
  refine j_aload_n X 3 dL_heard_0 rfl rfl ?_
  refine j_iconst (v := nI 0) X (by decide) dL_heard_1 ?_
  refine j_aload_n X 0 dL_heard_2 rfl rfl ?_
  refine j_iload_n X 1 dL_heard_3 rfl rfl ?_
  refine j_iload_n X 2 dL_heard_4 rfl rfl ?_
  refine x_callX X hA hZ (rest := [.int (nI 0), .ref ho]) [(ho, .inl (cB, 1, .inr (.inl f)))] [.int a1, .int a2] hM 2 rfl gL_heard_X5_heard rfl ⟨rfl, rfl⟩ hw_heard ⟨Nat.le_of_ble_eq_true rfl, Nat.le_of_ble_eq_true rfl⟩ rfl (Nat.le_of_ble_eq_true rfl) ⟨Nat.le_of_ble_eq_true rfl, Nat.le_of_ble_eq_true rfl⟩ dL_heard_5 [] (⟨0, 10, 13, 25⟩ : ExceptionTableEntry) [] (htab.trans rfl) (fun z hz => absurd hz List.not_mem_nil) (by decide) (by decide) wl_heard_IOB (by decide +kernel) (fun qe => ?_)
  refine j_astore X dL_heard_13 (by decide) rfl ?_
  refine j_iconst (v := nI 1) X (by decide) dL_heard_15 ?_
  exact j_iret X (f, S) rfl dL_heard_16 rfl
theorem hw_pass : yX5_pass.cls = RX5 ∧ yX5_pass.cls ≠ "java/lang/invoke/MethodHandle" ∧ yX5_pass.cls ≠ "java/lang/invoke/VarHandle" ∧ (parseMethodDescriptor yX5_pass.desc).map (fun d => d.parameters.length) = some 1 := by decide +kernel
set_option maxRecDepth 100000 in
set_option maxHeartbeats 4000000 in
theorem w_pass_n (l : Launch) (G : va_G) (K : Nat × Nat × (Nat → Int32)) (cI cZ cT cB : ClassId) (o ho : Nat) (S : zS) (f : Nat → Int64) (a1 : Int32) (V : Int32) {post : Int32 → zS → Prop} (hV : ∀ r u, post r u → r = V) (hM : zI l G cI cZ cT o yX5_pass wsX5_pass { frames := 6, cells := 0, slots := 0, locals := 135 } [.ref (o + 0), .int a1] S post) : jI l G K (j_ty cI cZ cT cB) yL_pass wsL_pass { frames := 7, cells := 0, slots := 0, locals := 157 } ([(ho, .inl (cB, 1, .inr (.inl f)))] ++ z_w cI cZ cT o S) [.ref o, .int a1, .ref ho] 0 0 (fun r (u : (Nat → Int64) × zS) => r = nI 0 ∧ u.1 0 = V.toInt64) (fun u => [(ho, .inl (cB, 1, .inr (.inl u.1)))] ++ z_w cI cZ cT o u.2) := by
  refine j_ofW (cc := cL_pass) (maxL := 4) (hh := [(0, 9, 12, 19)]) (by decide) rfl (Nat.le_of_ble_eq_true rfl) ?_
  intro p e s m args below meth c X htab hZ
  have hA : ∀ q, s.heap.size ≤ q → (va_A ([(ho, .inl (cB, 1, .inr (.inl f)))] ++ z_w cI cZ cT o S) s.heap.size) q := fun _ h => Or.inr h
  refine j_aload_n X 2 dL_pass_0 rfl rfl ?_
  refine j_iconst (v := nI 0) X (by decide) dL_pass_1 ?_
  refine j_aload_n X 0 dL_pass_2 rfl rfl ?_
  refine j_iload_n X 1 dL_pass_3 rfl rfl ?_
  refine j_callZI X hA hZ (rest := [.int (nI 0), .ref ho]) [(ho, .inl (cB, 1, .inr (.inl f)))] [.int a1] hM 1 rfl gL_pass_X5_pass rfl ⟨rfl, rfl⟩ hw_pass ⟨Nat.le_of_ble_eq_true rfl, Nat.le_of_ble_eq_true rfl⟩ rfl (Nat.le_of_ble_eq_true rfl) ⟨Nat.le_of_ble_eq_true rfl, Nat.le_of_ble_eq_true rfl⟩ dL_pass_4 (fun r9 u9 h9 => ?_)
  refine j_i2l X dL_pass_7 ?_
  refine j_last X 0 3 rfl rfl 0 rfl (by decide) (by decide) dL_pass_8 ?_
  refine j_weq (ws' := [(ho, .inl (cB, 1, .inr (.inl (vp_updL f 0 r9.toInt64))))] ++ z_w cI cZ cT o u9) rfl ?_
  refine j_goto X (tgt := 15) dL_pass_9 (by decide) ?_
  refine j_iconst (v := nI 0) X (by decide) dL_pass_15 ?_
  exact j_iret X (vp_updL f 0 r9.toInt64, u9) rfl dL_pass_16 ⟨rfl, by show vp_updL f 0 r9.toInt64 0 = V.toInt64; rw [hV r9 u9 h9]; exact if_pos rfl⟩
theorem wl_pass_IAE : Cond.classLink RL 19 "java/lang/IllegalArgumentException" ∈ wsL_pass := by decide +kernel
set_option maxRecDepth 100000 in
set_option maxHeartbeats 4000000 in
theorem w_pass_IAE (l : Launch) (G : va_G) (K : Nat × Nat × (Nat → Int32)) (cI cZ cT cB : ClassId) (o ho : Nat) (S : zS) (f : Nat → Int64) (a1 : Int32) (hM : zX l G cI cZ cT o yX5_pass wsX5_pass { frames := 6, cells := 1, slots := 6, locals := 135 } [.ref (o + 0), .int a1] S "java/lang/IllegalArgumentException") : jI l G K (j_ty cI cZ cT cB) yL_pass wsL_pass { frames := 7, cells := 1, slots := 6, locals := 157 } ([(ho, .inl (cB, 1, .inr (.inl f)))] ++ z_w cI cZ cT o S) [.ref o, .int a1, .ref ho] 1 6 (fun r (u : (Nat → Int64) × zS) => r = nI 1) (fun u => [(ho, .inl (cB, 1, .inr (.inl u.1)))] ++ z_w cI cZ cT o u.2) := by
  refine j_ofW (cc := cL_pass) (maxL := 4) (hh := [(0, 9, 12, 19)]) (by decide) rfl (Nat.le_of_ble_eq_true rfl) ?_
  intro p e s m args below meth c X htab hZ
  have hA : ∀ q, s.heap.size ≤ q → (va_A ([(ho, .inl (cB, 1, .inr (.inl f)))] ++ z_w cI cZ cT o S) s.heap.size) q := fun _ h => Or.inr h
  refine j_aload_n X 2 dL_pass_0 rfl rfl ?_
  refine j_iconst (v := nI 0) X (by decide) dL_pass_1 ?_
  refine j_aload_n X 0 dL_pass_2 rfl rfl ?_
  refine j_iload_n X 1 dL_pass_3 rfl rfl ?_
  refine x_callX X hA hZ (rest := [.int (nI 0), .ref ho]) [(ho, .inl (cB, 1, .inr (.inl f)))] [.int a1] hM 1 rfl gL_pass_X5_pass rfl ⟨rfl, rfl⟩ hw_pass ⟨Nat.le_of_ble_eq_true rfl, Nat.le_of_ble_eq_true rfl⟩ rfl (Nat.le_of_ble_eq_true rfl) ⟨Nat.le_of_ble_eq_true rfl, Nat.le_of_ble_eq_true rfl⟩ dL_pass_4 [] (⟨0, 9, 12, 19⟩ : ExceptionTableEntry) [] (htab.trans rfl) (fun z hz => absurd hz List.not_mem_nil) (by decide) (by decide) wl_pass_IAE (by decide +kernel) (fun qe => ?_)
  refine j_astore_n X dL_pass_12 rfl (by decide) rfl ?_
  refine j_iconst (v := nI 1) X (by decide) dL_pass_13 ?_
  exact j_iret X (f, S) rfl dL_pass_14 rfl
theorem hw_count : yX5_count.cls = RX5 ∧ yX5_count.cls ≠ "java/lang/invoke/MethodHandle" ∧ yX5_count.cls ≠ "java/lang/invoke/VarHandle" ∧ (parseMethodDescriptor yX5_count.desc).map (fun d => d.parameters.length) = some 1 := by decide +kernel
set_option maxRecDepth 100000 in
set_option maxHeartbeats 4000000 in
theorem w_count_n (l : Launch) (G : va_G) (K : Nat × Nat × (Nat → Int32)) (cI cZ cT cB : ClassId) (o ho : Nat) (S : zS) (f : Nat → Int64) (a1 : Int32) (V : Int32) {post : Int32 → zS → Prop} (hV : ∀ r u, post r u → r = V) (hM : zI l G cI cZ cT o yX5_count wsX5_count { frames := 3, cells := 0, slots := 0, locals := 65 } [.ref (o + 0), .int a1] S post) : jI l G K (j_ty cI cZ cT cB) yL_count wsL_count { frames := 4, cells := 0, slots := 0, locals := 86 } ([(ho, .inl (cB, 1, .inr (.inl f)))] ++ z_w cI cZ cT o S) [.ref o, .int a1, .ref ho] 0 0 (fun r (u : (Nat → Int64) × zS) => r = nI 0 ∧ u.1 0 = V.toInt64) (fun u => [(ho, .inl (cB, 1, .inr (.inl u.1)))] ++ z_w cI cZ cT o u.2) := by
  refine j_ofW (cc := cL_count) (maxL := 4) (hh := [(0, 9, 12, 25)]) (by decide) rfl (Nat.le_of_ble_eq_true rfl) ?_
  intro p e s m args below meth c X htab hZ
  have hA : ∀ q, s.heap.size ≤ q → (va_A ([(ho, .inl (cB, 1, .inr (.inl f)))] ++ z_w cI cZ cT o S) s.heap.size) q := fun _ h => Or.inr h
  refine j_aload_n X 2 dL_count_0 rfl rfl ?_
  refine j_iconst (v := nI 0) X (by decide) dL_count_1 ?_
  refine j_aload_n X 0 dL_count_2 rfl rfl ?_
  refine j_iload_n X 1 dL_count_3 rfl rfl ?_
  refine j_callZI X hA hZ (rest := [.int (nI 0), .ref ho]) [(ho, .inl (cB, 1, .inr (.inl f)))] [.int a1] hM 1 rfl gL_count_X5_count rfl ⟨rfl, rfl⟩ hw_count ⟨Nat.le_of_ble_eq_true rfl, Nat.le_of_ble_eq_true rfl⟩ rfl (Nat.le_of_ble_eq_true rfl) ⟨Nat.le_of_ble_eq_true rfl, Nat.le_of_ble_eq_true rfl⟩ dL_count_4 (fun r9 u9 h9 => ?_)
  refine j_i2l X dL_count_7 ?_
  refine j_last X 0 3 rfl rfl 0 rfl (by decide) (by decide) dL_count_8 ?_
  refine j_weq (ws' := [(ho, .inl (cB, 1, .inr (.inl (vp_updL f 0 r9.toInt64))))] ++ z_w cI cZ cT o u9) rfl ?_
  refine j_goto X (tgt := 15) dL_count_9 (by decide) ?_
  refine j_iconst (v := nI 0) X (by decide) dL_count_15 ?_
  exact j_iret X (vp_updL f 0 r9.toInt64, u9) rfl dL_count_16 ⟨rfl, by show vp_updL f 0 r9.toInt64 0 = V.toInt64; rw [hV r9 u9 h9]; exact if_pos rfl⟩
theorem wl_count_IOB : Cond.classLink RL 25 "java/lang/IndexOutOfBoundsException" ∈ wsL_count := by decide +kernel
set_option maxRecDepth 100000 in
set_option maxHeartbeats 4000000 in
theorem w_count_IOB (l : Launch) (G : va_G) (K : Nat × Nat × (Nat → Int32)) (cI cZ cT cB : ClassId) (o ho : Nat) (S : zS) (f : Nat → Int64) (a1 : Int32) (hM : zX l G cI cZ cT o yX5_count wsX5_count { frames := 6, cells := 1, slots := 6, locals := 82 } [.ref (o + 0), .int a1] S "java/lang/IndexOutOfBoundsException") : jI l G K (j_ty cI cZ cT cB) yL_count wsL_count { frames := 7, cells := 1, slots := 6, locals := 103 } ([(ho, .inl (cB, 1, .inr (.inl f)))] ++ z_w cI cZ cT o S) [.ref o, .int a1, .ref ho] 1 6 (fun r (u : (Nat → Int64) × zS) => r = nI 1) (fun u => [(ho, .inl (cB, 1, .inr (.inl u.1)))] ++ z_w cI cZ cT o u.2) := by
  refine j_ofW (cc := cL_count) (maxL := 4) (hh := [(0, 9, 12, 25)]) (by decide) rfl (Nat.le_of_ble_eq_true rfl) ?_
  intro p e s m args below meth c X htab hZ
  have hA : ∀ q, s.heap.size ≤ q → (va_A ([(ho, .inl (cB, 1, .inr (.inl f)))] ++ z_w cI cZ cT o S) s.heap.size) q := fun _ h => Or.inr h
  refine j_aload_n X 2 dL_count_0 rfl rfl ?_
  refine j_iconst (v := nI 0) X (by decide) dL_count_1 ?_
  refine j_aload_n X 0 dL_count_2 rfl rfl ?_
  refine j_iload_n X 1 dL_count_3 rfl rfl ?_
  refine x_callX X hA hZ (rest := [.int (nI 0), .ref ho]) [(ho, .inl (cB, 1, .inr (.inl f)))] [.int a1] hM 1 rfl gL_count_X5_count rfl ⟨rfl, rfl⟩ hw_count ⟨Nat.le_of_ble_eq_true rfl, Nat.le_of_ble_eq_true rfl⟩ rfl (Nat.le_of_ble_eq_true rfl) ⟨Nat.le_of_ble_eq_true rfl, Nat.le_of_ble_eq_true rfl⟩ dL_count_4 [] (⟨0, 9, 12, 25⟩ : ExceptionTableEntry) [] (htab.trans rfl) (fun z hz => absurd hz List.not_mem_nil) (by decide) (by decide) wl_count_IOB (by decide +kernel) (fun qe => ?_)
  refine j_astore_n X dL_count_12 rfl (by decide) rfl ?_
  refine j_iconst (v := nI 1) X (by decide) dL_count_13 ?_
  exact j_iret X (f, S) rfl dL_count_14 rfl
theorem hw_way : yX5_way.cls = RX5 ∧ yX5_way.cls ≠ "java/lang/invoke/MethodHandle" ∧ yX5_way.cls ≠ "java/lang/invoke/VarHandle" ∧ (parseMethodDescriptor yX5_way.desc).map (fun d => d.parameters.length) = some 4 := by decide +kernel
set_option maxRecDepth 100000 in
set_option maxHeartbeats 4000000 in
theorem w_way_n (l : Launch) (G : va_G) (K : Nat × Nat × (Nat → Int32)) (cI cZ cT cB : ClassId) (o ho : Nat) (S : zS) (f : Nat → Int64) (a1 a2 a3 a4 : Int32) (V : Int32) {post : Int32 → zS → Prop} (hV : ∀ r u, post r u → r = V) (hM : zI l G cI cZ cT o yX5_way wsX5_way { frames := 4, cells := 0, slots := 0, locals := 94 } [.ref (o + 0), .int a1, .int a2, .int a3, .int a4] S post) : jI l G K (j_ty cI cZ cT cB) yL_way wsL_way { frames := 5, cells := 0, slots := 0, locals := 120 } ([(ho, .inl (cB, 1, .inr (.inl f)))] ++ z_w cI cZ cT o S) [.ref o, .int a1, .int a2, .int a3, .int a4, .ref ho] 0 0 (fun r (u : (Nat → Int64) × zS) => r = nI 0 ∧ u.1 0 = V.toInt64) (fun u => [(ho, .inl (cB, 1, .inr (.inl u.1)))] ++ z_w cI cZ cT o u.2) := by
  refine j_ofW (cc := cL_way) (maxL := 7) (hh := [(0, 14, 17, 25)]) (by decide) rfl (Nat.le_of_ble_eq_true rfl) ?_
  intro p e s m args below meth c X htab hZ
  have hA : ∀ q, s.heap.size ≤ q → (va_A ([(ho, .inl (cB, 1, .inr (.inl f)))] ++ z_w cI cZ cT o S) s.heap.size) q := fun _ h => Or.inr h
  refine j_aload X 5 dL_way_0 rfl ?_
  refine j_iconst (v := nI 0) X (by decide) dL_way_2 ?_
  refine j_aload_n X 0 dL_way_3 rfl rfl ?_
  refine j_iload_n X 1 dL_way_4 rfl rfl ?_
  refine j_iload_n X 2 dL_way_5 rfl rfl ?_
  refine j_iload_n X 3 dL_way_6 rfl rfl ?_
  refine j_iload X 4 dL_way_7 rfl ?_
  refine j_callZI X hA hZ (rest := [.int (nI 0), .ref ho]) [(ho, .inl (cB, 1, .inr (.inl f)))] [.int a1, .int a2, .int a3, .int a4] hM 4 rfl gL_way_X5_way rfl ⟨rfl, rfl⟩ hw_way ⟨Nat.le_of_ble_eq_true rfl, Nat.le_of_ble_eq_true rfl⟩ rfl (Nat.le_of_ble_eq_true rfl) ⟨Nat.le_of_ble_eq_true rfl, Nat.le_of_ble_eq_true rfl⟩ dL_way_9 (fun r9 u9 h9 => ?_)
  refine j_i2l X dL_way_12 ?_
  refine j_last X 0 3 rfl rfl 0 rfl (by decide) (by decide) dL_way_13 ?_
  refine j_weq (ws' := [(ho, .inl (cB, 1, .inr (.inl (vp_updL f 0 r9.toInt64))))] ++ z_w cI cZ cT o u9) rfl ?_
  refine j_goto X (tgt := 21) dL_way_14 (by decide) ?_
  refine j_iconst (v := nI 0) X (by decide) dL_way_21 ?_
  exact j_iret X (vp_updL f 0 r9.toInt64, u9) rfl dL_way_22 ⟨rfl, by show vp_updL f 0 r9.toInt64 0 = V.toInt64; rw [hV r9 u9 h9]; exact if_pos rfl⟩
theorem wl_way_IOB : Cond.classLink RL 25 "java/lang/IndexOutOfBoundsException" ∈ wsL_way := by decide +kernel
set_option maxRecDepth 100000 in
set_option maxHeartbeats 4000000 in
theorem w_way_IOB (l : Launch) (G : va_G) (K : Nat × Nat × (Nat → Int32)) (cI cZ cT cB : ClassId) (o ho : Nat) (S : zS) (f : Nat → Int64) (a1 a2 a3 a4 : Int32) (hM : zX l G cI cZ cT o yX5_way wsX5_way { frames := 6, cells := 1, slots := 6, locals := 94 } [.ref (o + 0), .int a1, .int a2, .int a3, .int a4] S "java/lang/IndexOutOfBoundsException") : jI l G K (j_ty cI cZ cT cB) yL_way wsL_way { frames := 7, cells := 1, slots := 6, locals := 120 } ([(ho, .inl (cB, 1, .inr (.inl f)))] ++ z_w cI cZ cT o S) [.ref o, .int a1, .int a2, .int a3, .int a4, .ref ho] 1 6 (fun r (u : (Nat → Int64) × zS) => r = nI 1) (fun u => [(ho, .inl (cB, 1, .inr (.inl u.1)))] ++ z_w cI cZ cT o u.2) := by
  refine j_ofW (cc := cL_way) (maxL := 7) (hh := [(0, 14, 17, 25)]) (by decide) rfl (Nat.le_of_ble_eq_true rfl) ?_
  intro p e s m args below meth c X htab hZ
  have hA : ∀ q, s.heap.size ≤ q → (va_A ([(ho, .inl (cB, 1, .inr (.inl f)))] ++ z_w cI cZ cT o S) s.heap.size) q := fun _ h => Or.inr h
  refine j_aload X 5 dL_way_0 rfl ?_
  refine j_iconst (v := nI 0) X (by decide) dL_way_2 ?_
  refine j_aload_n X 0 dL_way_3 rfl rfl ?_
  refine j_iload_n X 1 dL_way_4 rfl rfl ?_
  refine j_iload_n X 2 dL_way_5 rfl rfl ?_
  refine j_iload_n X 3 dL_way_6 rfl rfl ?_
  refine j_iload X 4 dL_way_7 rfl ?_
  refine x_callX X hA hZ (rest := [.int (nI 0), .ref ho]) [(ho, .inl (cB, 1, .inr (.inl f)))] [.int a1, .int a2, .int a3, .int a4] hM 4 rfl gL_way_X5_way rfl ⟨rfl, rfl⟩ hw_way ⟨Nat.le_of_ble_eq_true rfl, Nat.le_of_ble_eq_true rfl⟩ rfl (Nat.le_of_ble_eq_true rfl) ⟨Nat.le_of_ble_eq_true rfl, Nat.le_of_ble_eq_true rfl⟩ dL_way_9 [] (⟨0, 14, 17, 25⟩ : ExceptionTableEntry) [] (htab.trans rfl) (fun z hz => absurd hz List.not_mem_nil) (by decide) (by decide) wl_way_IOB (by decide +kernel) (fun qe => ?_)
  refine j_astore X dL_way_17 (by decide) rfl ?_
  refine j_iconst (v := nI 1) X (by decide) dL_way_19 ?_
  exact j_iret X (f, S) rfl dL_way_20 rfl
theorem hw_reach : yX5_reach.cls = RX5 ∧ yX5_reach.cls ≠ "java/lang/invoke/MethodHandle" ∧ yX5_reach.cls ≠ "java/lang/invoke/VarHandle" ∧ (parseMethodDescriptor yX5_reach.desc).map (fun d => d.parameters.length) = some 3 := by decide +kernel
theorem wl_reach_IOB : Cond.classLink RL 25 "java/lang/IndexOutOfBoundsException" ∈ wsL_reach := by decide +kernel
set_option maxRecDepth 100000 in
set_option maxHeartbeats 4000000 in
theorem w_reach_IOB (l : Launch) (G : va_G) (K : Nat × Nat × (Nat → Int32)) (cI cZ cT cB : ClassId) (o ho : Nat) (S : zS) (f : Nat → Int64) (a1 a2 a3 : Int32) (hM : zX l G cI cZ cT o yX5_reach wsX5_reach { frames := 6, cells := 1, slots := 6, locals := 94 } [.ref (o + 0), .int a1, .int a2, .int a3] S "java/lang/IndexOutOfBoundsException") : jI l G K (j_ty cI cZ cT cB) yL_reach wsL_reach { frames := 7, cells := 1, slots := 6, locals := 118 } ([(ho, .inl (cB, 1, .inr (.inl f)))] ++ z_w cI cZ cT o S) [.ref o, .int a1, .int a2, .int a3, .ref ho] 1 6 (fun r (u : (Nat → Int64) × zS) => r = nI 1) (fun u => [(ho, .inl (cB, 1, .inr (.inl u.1)))] ++ z_w cI cZ cT o u.2) := by
  refine j_ofW (cc := cL_reach) (maxL := 6) (hh := [(0, 12, 15, 25)]) (by decide) rfl (Nat.le_of_ble_eq_true rfl) ?_
  intro p e s m args below meth c X htab hZ
  have hA : ∀ q, s.heap.size ≤ q → (va_A ([(ho, .inl (cB, 1, .inr (.inl f)))] ++ z_w cI cZ cT o S) s.heap.size) q := fun _ h => Or.inr h
  refine j_aload X 4 dL_reach_0 rfl ?_
  refine j_iconst (v := nI 0) X (by decide) dL_reach_2 ?_
  refine j_aload_n X 0 dL_reach_3 rfl rfl ?_
  refine j_iload_n X 1 dL_reach_4 rfl rfl ?_
  refine j_iload_n X 2 dL_reach_5 rfl rfl ?_
  refine j_iload_n X 3 dL_reach_6 rfl rfl ?_
  refine x_callX X hA hZ (rest := [.int (nI 0), .ref ho]) [(ho, .inl (cB, 1, .inr (.inl f)))] [.int a1, .int a2, .int a3] hM 3 rfl gL_reach_X5_reach rfl ⟨rfl, rfl⟩ hw_reach ⟨Nat.le_of_ble_eq_true rfl, Nat.le_of_ble_eq_true rfl⟩ rfl (Nat.le_of_ble_eq_true rfl) ⟨Nat.le_of_ble_eq_true rfl, Nat.le_of_ble_eq_true rfl⟩ dL_reach_7 [] (⟨0, 12, 15, 25⟩ : ExceptionTableEntry) [] (htab.trans rfl) (fun z hz => absurd hz List.not_mem_nil) (by decide) (by decide) wl_reach_IOB (by decide +kernel) (fun qe => ?_)
  refine j_astore X dL_reach_15 (by decide) rfl ?_
  refine j_iconst (v := nI 1) X (by decide) dL_reach_17 ?_
  exact j_iret X (f, S) rfl dL_reach_18 rfl
theorem hw_target : yX5_target.cls = RX5 ∧ yX5_target.cls ≠ "java/lang/invoke/MethodHandle" ∧ yX5_target.cls ≠ "java/lang/invoke/VarHandle" ∧ (parseMethodDescriptor yX5_target.desc).map (fun d => d.parameters.length) = some 1 := by decide +kernel
theorem wl_target_IOB : Cond.classLink RL 25 "java/lang/IndexOutOfBoundsException" ∈ wsL_target := by decide +kernel
set_option maxRecDepth 100000 in
set_option maxHeartbeats 4000000 in
theorem w_target_IOB (l : Launch) (G : va_G) (K : Nat × Nat × (Nat → Int32)) (cI cZ cT cB : ClassId) (o ho : Nat) (S : zS) (f : Nat → Int64) (a1 : Int32) (hM : zX l G cI cZ cT o yX5_target wsX5_target { frames := 6, cells := 1, slots := 6, locals := 94 } [.ref (o + 0), .int a1] S "java/lang/IndexOutOfBoundsException") : jI l G K (j_ty cI cZ cT cB) yL_target wsL_target { frames := 7, cells := 1, slots := 6, locals := 116 } ([(ho, .inl (cB, 1, .inr (.inl f)))] ++ z_w cI cZ cT o S) [.ref o, .int a1, .ref ho] 1 6 (fun r (u : (Nat → Int64) × zS) => r = nI 1) (fun u => [(ho, .inl (cB, 1, .inr (.inl u.1)))] ++ z_w cI cZ cT o u.2) := by
  refine j_ofW (cc := cL_target) (maxL := 4) (hh := [(0, 9, 12, 25)]) (by decide) rfl (Nat.le_of_ble_eq_true rfl) ?_
  intro p e s m args below meth c X htab hZ
  have hA : ∀ q, s.heap.size ≤ q → (va_A ([(ho, .inl (cB, 1, .inr (.inl f)))] ++ z_w cI cZ cT o S) s.heap.size) q := fun _ h => Or.inr h
  refine j_aload_n X 2 dL_target_0 rfl rfl ?_
  refine j_iconst (v := nI 0) X (by decide) dL_target_1 ?_
  refine j_aload_n X 0 dL_target_2 rfl rfl ?_
  refine j_iload_n X 1 dL_target_3 rfl rfl ?_
  refine x_callX X hA hZ (rest := [.int (nI 0), .ref ho]) [(ho, .inl (cB, 1, .inr (.inl f)))] [.int a1] hM 1 rfl gL_target_X5_target rfl ⟨rfl, rfl⟩ hw_target ⟨Nat.le_of_ble_eq_true rfl, Nat.le_of_ble_eq_true rfl⟩ rfl (Nat.le_of_ble_eq_true rfl) ⟨Nat.le_of_ble_eq_true rfl, Nat.le_of_ble_eq_true rfl⟩ dL_target_4 [] (⟨0, 9, 12, 25⟩ : ExceptionTableEntry) [] (htab.trans rfl) (fun z hz => absurd hz List.not_mem_nil) (by decide) (by decide) wl_target_IOB (by decide +kernel) (fun qe => ?_)
  refine j_astore_n X dL_target_12 rfl (by decide) rfl ?_
  refine j_iconst (v := nI 1) X (by decide) dL_target_13 ?_
  exact j_iret X (f, S) rfl dL_target_14 rfl
theorem hw_foresee : yX5_foresee.cls = RX5 ∧ yX5_foresee.cls ≠ "java/lang/invoke/MethodHandle" ∧ yX5_foresee.cls ≠ "java/lang/invoke/VarHandle" ∧ (parseMethodDescriptor yX5_foresee.desc).map (fun d => d.parameters.length) = some 2 := by decide +kernel
set_option maxRecDepth 100000 in
set_option maxHeartbeats 4000000 in
theorem w_foresee_n (l : Launch) (G : va_G) (K : Nat × Nat × (Nat → Int32)) (cI cZ cT cB : ClassId) (o ho : Nat) (S : zS) (f : Nat → Int64) (a1 a2 : Int32) (V : Int32) {post : Int32 → zS → Prop} (hV : ∀ r u, post r u → r = V) (hM : zI l G cI cZ cT o yX5_foresee wsX5_foresee { frames := 6, cells := 0, slots := 0, locals := 135 } [.ref (o + 0), .int a1, .int a2] S post) : jI l G K (j_ty cI cZ cT cB) yL_foresee wsL_foresee { frames := 7, cells := 0, slots := 0, locals := 157 } ([(ho, .inl (cB, 1, .inr (.inl f)))] ++ z_w cI cZ cT o S) [.ref o, .int a1, .int a2, .ref ho] 0 0 (fun r (u : (Nat → Int64) × zS) => r = nI 0 ∧ u.1 0 = V.toInt64) (fun u => [(ho, .inl (cB, 1, .inr (.inl u.1)))] ++ z_w cI cZ cT o u.2) := by
  refine j_ofW (cc := cL_foresee) (maxL := 5) (hh := [(0, 10, 13, 19), (0, 10, 17, 25)]) (by decide) rfl (Nat.le_of_ble_eq_true rfl) ?_
  intro p e s m args below meth c X htab hZ
  have hA : ∀ q, s.heap.size ≤ q → (va_A ([(ho, .inl (cB, 1, .inr (.inl f)))] ++ z_w cI cZ cT o S) s.heap.size) q := fun _ h => Or.inr h
  refine j_aload_n X 3 dL_foresee_0 rfl rfl ?_
  refine j_iconst (v := nI 0) X (by decide) dL_foresee_1 ?_
  refine j_aload_n X 0 dL_foresee_2 rfl rfl ?_
  refine j_iload_n X 1 dL_foresee_3 rfl rfl ?_
  refine j_iload_n X 2 dL_foresee_4 rfl rfl ?_
  refine j_callZI X hA hZ (rest := [.int (nI 0), .ref ho]) [(ho, .inl (cB, 1, .inr (.inl f)))] [.int a1, .int a2] hM 2 rfl gL_foresee_X5_foresee rfl ⟨rfl, rfl⟩ hw_foresee ⟨Nat.le_of_ble_eq_true rfl, Nat.le_of_ble_eq_true rfl⟩ rfl (Nat.le_of_ble_eq_true rfl) ⟨Nat.le_of_ble_eq_true rfl, Nat.le_of_ble_eq_true rfl⟩ dL_foresee_5 (fun r9 u9 h9 => ?_)
  refine j_i2l X dL_foresee_8 ?_
  refine j_last X 0 3 rfl rfl 0 rfl (by decide) (by decide) dL_foresee_9 ?_
  refine j_weq (ws' := [(ho, .inl (cB, 1, .inr (.inl (vp_updL f 0 r9.toInt64))))] ++ z_w cI cZ cT o u9) rfl ?_
  refine j_goto X (tgt := 21) dL_foresee_10 (by decide) ?_
  refine j_iconst (v := nI 0) X (by decide) dL_foresee_21 ?_
  exact j_iret X (vp_updL f 0 r9.toInt64, u9) rfl dL_foresee_22 ⟨rfl, by show vp_updL f 0 r9.toInt64 0 = V.toInt64; rw [hV r9 u9 h9]; exact if_pos rfl⟩
theorem wl_foresee_IAE : Cond.classLink RL 19 "java/lang/IllegalArgumentException" ∈ wsL_foresee := by decide +kernel
set_option maxRecDepth 100000 in
set_option maxHeartbeats 4000000 in
theorem w_foresee_IAE (l : Launch) (G : va_G) (K : Nat × Nat × (Nat → Int32)) (cI cZ cT cB : ClassId) (o ho : Nat) (S : zS) (f : Nat → Int64) (a1 a2 : Int32) (hM : zX l G cI cZ cT o yX5_foresee wsX5_foresee { frames := 6, cells := 1, slots := 6, locals := 135 } [.ref (o + 0), .int a1, .int a2] S "java/lang/IllegalArgumentException") : jI l G K (j_ty cI cZ cT cB) yL_foresee wsL_foresee { frames := 7, cells := 1, slots := 6, locals := 157 } ([(ho, .inl (cB, 1, .inr (.inl f)))] ++ z_w cI cZ cT o S) [.ref o, .int a1, .int a2, .ref ho] 1 6 (fun r (u : (Nat → Int64) × zS) => r = nI 1) (fun u => [(ho, .inl (cB, 1, .inr (.inl u.1)))] ++ z_w cI cZ cT o u.2) := by
  refine j_ofW (cc := cL_foresee) (maxL := 5) (hh := [(0, 10, 13, 19), (0, 10, 17, 25)]) (by decide) rfl (Nat.le_of_ble_eq_true rfl) ?_
  intro p e s m args below meth c X htab hZ
  have hA : ∀ q, s.heap.size ≤ q → (va_A ([(ho, .inl (cB, 1, .inr (.inl f)))] ++ z_w cI cZ cT o S) s.heap.size) q := fun _ h => Or.inr h
  refine j_aload_n X 3 dL_foresee_0 rfl rfl ?_
  refine j_iconst (v := nI 0) X (by decide) dL_foresee_1 ?_
  refine j_aload_n X 0 dL_foresee_2 rfl rfl ?_
  refine j_iload_n X 1 dL_foresee_3 rfl rfl ?_
  refine j_iload_n X 2 dL_foresee_4 rfl rfl ?_
  refine x_callX X hA hZ (rest := [.int (nI 0), .ref ho]) [(ho, .inl (cB, 1, .inr (.inl f)))] [.int a1, .int a2] hM 2 rfl gL_foresee_X5_foresee rfl ⟨rfl, rfl⟩ hw_foresee ⟨Nat.le_of_ble_eq_true rfl, Nat.le_of_ble_eq_true rfl⟩ rfl (Nat.le_of_ble_eq_true rfl) ⟨Nat.le_of_ble_eq_true rfl, Nat.le_of_ble_eq_true rfl⟩ dL_foresee_5 [] (⟨0, 10, 13, 19⟩ : ExceptionTableEntry) [(⟨0, 10, 17, 25⟩ : ExceptionTableEntry)] (htab.trans rfl) (fun z hz => absurd hz List.not_mem_nil) (by decide) (by decide) wl_foresee_IAE (by decide +kernel) (fun qe => ?_)
  refine j_astore X dL_foresee_13 (by decide) rfl ?_
  refine j_iconst (v := nI 1) X (by decide) dL_foresee_15 ?_
  exact j_iret X (f, S) rfl dL_foresee_16 rfl
theorem wl_foresee_IOB : Cond.classLink RL 25 "java/lang/IndexOutOfBoundsException" ∈ wsL_foresee := by decide +kernel
set_option maxRecDepth 100000 in
set_option maxHeartbeats 4000000 in
theorem w_foresee_IOB (l : Launch) (G : va_G) (K : Nat × Nat × (Nat → Int32)) (cI cZ cT cB : ClassId) (o ho : Nat) (S : zS) (f : Nat → Int64) (a1 a2 : Int32) (hM : zX l G cI cZ cT o yX5_foresee wsX5_foresee { frames := 6, cells := 1, slots := 6, locals := 135 } [.ref (o + 0), .int a1, .int a2] S "java/lang/IndexOutOfBoundsException") : jI l G K (j_ty cI cZ cT cB) yL_foresee wsL_foresee { frames := 7, cells := 1, slots := 6, locals := 157 } ([(ho, .inl (cB, 1, .inr (.inl f)))] ++ z_w cI cZ cT o S) [.ref o, .int a1, .int a2, .ref ho] 1 6 (fun r (u : (Nat → Int64) × zS) => r = nI 2) (fun u => [(ho, .inl (cB, 1, .inr (.inl u.1)))] ++ z_w cI cZ cT o u.2) := by
  refine j_ofW (cc := cL_foresee) (maxL := 5) (hh := [(0, 10, 13, 19), (0, 10, 17, 25)]) (by decide) rfl (Nat.le_of_ble_eq_true rfl) ?_
  intro p e s m args below meth c X htab hZ
  have hA : ∀ q, s.heap.size ≤ q → (va_A ([(ho, .inl (cB, 1, .inr (.inl f)))] ++ z_w cI cZ cT o S) s.heap.size) q := fun _ h => Or.inr h
  refine j_aload_n X 3 dL_foresee_0 rfl rfl ?_
  refine j_iconst (v := nI 0) X (by decide) dL_foresee_1 ?_
  refine j_aload_n X 0 dL_foresee_2 rfl rfl ?_
  refine j_iload_n X 1 dL_foresee_3 rfl rfl ?_
  refine j_iload_n X 2 dL_foresee_4 rfl rfl ?_
  refine x_callX X hA hZ (rest := [.int (nI 0), .ref ho]) [(ho, .inl (cB, 1, .inr (.inl f)))] [.int a1, .int a2] hM 2 rfl gL_foresee_X5_foresee rfl ⟨rfl, rfl⟩ hw_foresee ⟨Nat.le_of_ble_eq_true rfl, Nat.le_of_ble_eq_true rfl⟩ rfl (Nat.le_of_ble_eq_true rfl) ⟨Nat.le_of_ble_eq_true rfl, Nat.le_of_ble_eq_true rfl⟩ dL_foresee_5 [(⟨0, 10, 13, 19⟩ : ExceptionTableEntry)] (⟨0, 10, 17, 25⟩ : ExceptionTableEntry) [] (htab.trans rfl) (fun z hz => by
      simp only [List.mem_cons, List.not_mem_nil, or_false] at hz
      rcases hz with rfl
      · exact ⟨by decide, "java/lang/IllegalArgumentException", wl_foresee_IAE, hZ.2.2.2.1.2.2.1.2 ("java/lang/IndexOutOfBoundsException", "java/lang/IllegalArgumentException") (by decide +kernel)⟩) (by decide) (by decide) wl_foresee_IOB (by decide +kernel) (fun qe => ?_)
  refine j_astore X dL_foresee_17 (by decide) rfl ?_
  refine j_iconst (v := nI 2) X (by decide) dL_foresee_19 ?_
  exact j_iret X (f, S) rfl dL_foresee_20 rfl
theorem hw_falls : yX5_falls.cls = RX5 ∧ yX5_falls.cls ≠ "java/lang/invoke/MethodHandle" ∧ yX5_falls.cls ≠ "java/lang/invoke/VarHandle" ∧ (parseMethodDescriptor yX5_falls.desc).map (fun d => d.parameters.length) = some 2 := by decide +kernel
set_option maxRecDepth 100000 in
set_option maxHeartbeats 4000000 in
theorem w_falls_n (l : Launch) (G : va_G) (K : Nat × Nat × (Nat → Int32)) (cI cZ cT cB : ClassId) (o ho : Nat) (S : zS) (f : Nat → Int64) (a1 a2 : Int32) (V : Int32) {post : Int32 → zS → Prop} (hV : ∀ r u, post r u → r = V) (hM : zI l G cI cZ cT o yX5_falls wsX5_falls { frames := 6, cells := 0, slots := 0, locals := 135 } [.ref (o + 0), .int a1, .int a2] S post) : jI l G K (j_ty cI cZ cT cB) yL_falls wsL_falls { frames := 7, cells := 0, slots := 0, locals := 159 } ([(ho, .inl (cB, 1, .inr (.inl f)))] ++ z_w cI cZ cT o S) [.ref o, .int a1, .int a2, .ref ho] 0 0 (fun r (u : (Nat → Int64) × zS) => r = nI 0 ∧ u.1 0 = V.toInt64) (fun u => [(ho, .inl (cB, 1, .inr (.inl u.1)))] ++ z_w cI cZ cT o u.2) := by
  refine j_ofW (cc := cL_falls) (maxL := 5) (hh := [(0, 10, 13, 25)]) (by decide) rfl (Nat.le_of_ble_eq_true rfl) ?_
  intro p e s m args below meth c X htab hZ
  have hA : ∀ q, s.heap.size ≤ q → (va_A ([(ho, .inl (cB, 1, .inr (.inl f)))] ++ z_w cI cZ cT o S) s.heap.size) q := fun _ h => Or.inr h
  refine j_aload_n X 3 dL_falls_0 rfl rfl ?_
  refine j_iconst (v := nI 0) X (by decide) dL_falls_1 ?_
  refine j_aload_n X 0 dL_falls_2 rfl rfl ?_
  refine j_iload_n X 1 dL_falls_3 rfl rfl ?_
  refine j_iload_n X 2 dL_falls_4 rfl rfl ?_
  refine j_callZI X hA hZ (rest := [.int (nI 0), .ref ho]) [(ho, .inl (cB, 1, .inr (.inl f)))] [.int a1, .int a2] hM 2 rfl gL_falls_X5_falls rfl ⟨rfl, rfl⟩ hw_falls ⟨Nat.le_of_ble_eq_true rfl, Nat.le_of_ble_eq_true rfl⟩ rfl (Nat.le_of_ble_eq_true rfl) ⟨Nat.le_of_ble_eq_true rfl, Nat.le_of_ble_eq_true rfl⟩ dL_falls_5 (fun r9 u9 h9 => ?_)
  refine j_i2l X dL_falls_8 ?_
  refine j_last X 0 3 rfl rfl 0 rfl (by decide) (by decide) dL_falls_9 ?_
  refine j_weq (ws' := [(ho, .inl (cB, 1, .inr (.inl (vp_updL f 0 r9.toInt64))))] ++ z_w cI cZ cT o u9) rfl ?_
  refine j_goto X (tgt := 17) dL_falls_10 (by decide) ?_
  refine j_iconst (v := nI 0) X (by decide) dL_falls_17 ?_
  exact j_iret X (vp_updL f 0 r9.toInt64, u9) rfl dL_falls_18 ⟨rfl, by show vp_updL f 0 r9.toInt64 0 = V.toInt64; rw [hV r9 u9 h9]; exact if_pos rfl⟩
theorem wl_falls_IOB : Cond.classLink RL 25 "java/lang/IndexOutOfBoundsException" ∈ wsL_falls := by decide +kernel
set_option maxRecDepth 100000 in
set_option maxHeartbeats 4000000 in
theorem w_falls_IOB (l : Launch) (G : va_G) (K : Nat × Nat × (Nat → Int32)) (cI cZ cT cB : ClassId) (o ho : Nat) (S : zS) (f : Nat → Int64) (a1 a2 : Int32) (hM : zX l G cI cZ cT o yX5_falls wsX5_falls { frames := 6, cells := 1, slots := 6, locals := 135 } [.ref (o + 0), .int a1, .int a2] S "java/lang/IndexOutOfBoundsException") : jI l G K (j_ty cI cZ cT cB) yL_falls wsL_falls { frames := 7, cells := 1, slots := 6, locals := 159 } ([(ho, .inl (cB, 1, .inr (.inl f)))] ++ z_w cI cZ cT o S) [.ref o, .int a1, .int a2, .ref ho] 1 6 (fun r (u : (Nat → Int64) × zS) => r = nI 1) (fun u => [(ho, .inl (cB, 1, .inr (.inl u.1)))] ++ z_w cI cZ cT o u.2) := by
  refine j_ofW (cc := cL_falls) (maxL := 5) (hh := [(0, 10, 13, 25)]) (by decide) rfl (Nat.le_of_ble_eq_true rfl) ?_
  intro p e s m args below meth c X htab hZ
  have hA : ∀ q, s.heap.size ≤ q → (va_A ([(ho, .inl (cB, 1, .inr (.inl f)))] ++ z_w cI cZ cT o S) s.heap.size) q := fun _ h => Or.inr h
  refine j_aload_n X 3 dL_falls_0 rfl rfl ?_
  refine j_iconst (v := nI 0) X (by decide) dL_falls_1 ?_
  refine j_aload_n X 0 dL_falls_2 rfl rfl ?_
  refine j_iload_n X 1 dL_falls_3 rfl rfl ?_
  refine j_iload_n X 2 dL_falls_4 rfl rfl ?_
  refine x_callX X hA hZ (rest := [.int (nI 0), .ref ho]) [(ho, .inl (cB, 1, .inr (.inl f)))] [.int a1, .int a2] hM 2 rfl gL_falls_X5_falls rfl ⟨rfl, rfl⟩ hw_falls ⟨Nat.le_of_ble_eq_true rfl, Nat.le_of_ble_eq_true rfl⟩ rfl (Nat.le_of_ble_eq_true rfl) ⟨Nat.le_of_ble_eq_true rfl, Nat.le_of_ble_eq_true rfl⟩ dL_falls_5 [] (⟨0, 10, 13, 25⟩ : ExceptionTableEntry) [] (htab.trans rfl) (fun z hz => absurd hz List.not_mem_nil) (by decide) (by decide) wl_falls_IOB (by decide +kernel) (fun qe => ?_)
  refine j_astore X dL_falls_13 (by decide) rfl ?_
  refine j_iconst (v := nI 1) X (by decide) dL_falls_15 ?_
  exact j_iret X (f, S) rfl dL_falls_16 rfl
theorem hw_lasts : yX5_lasts.cls = RX5 ∧ yX5_lasts.cls ≠ "java/lang/invoke/MethodHandle" ∧ yX5_lasts.cls ≠ "java/lang/invoke/VarHandle" ∧ (parseMethodDescriptor yX5_lasts.desc).map (fun d => d.parameters.length) = some 1 := by decide +kernel
theorem wl_lasts_IOB : Cond.classLink RL 25 "java/lang/IndexOutOfBoundsException" ∈ wsL_lasts := by decide +kernel
set_option maxRecDepth 100000 in
set_option maxHeartbeats 4000000 in
theorem w_lasts_IOB (l : Launch) (G : va_G) (K : Nat × Nat × (Nat → Int32)) (cI cZ cT cB : ClassId) (o ho : Nat) (S : zS) (f : Nat → Int64) (a1 : Int32) (hM : zX l G cI cZ cT o yX5_lasts wsX5_lasts { frames := 6, cells := 1, slots := 6, locals := 135 } [.ref (o + 0), .int a1] S "java/lang/IndexOutOfBoundsException") : jI l G K (j_ty cI cZ cT cB) yL_lasts wsL_lasts { frames := 7, cells := 1, slots := 6, locals := 157 } ([(ho, .inl (cB, 1, .inr (.inl f)))] ++ z_w cI cZ cT o S) [.ref o, .int a1, .ref ho] 1 6 (fun r (u : (Nat → Int64) × zS) => r = nI 1) (fun u => [(ho, .inl (cB, 1, .inr (.inl u.1)))] ++ z_w cI cZ cT o u.2) := by
  refine j_ofW (cc := cL_lasts) (maxL := 4) (hh := [(0, 9, 12, 25)]) (by decide) rfl (Nat.le_of_ble_eq_true rfl) ?_
  intro p e s m args below meth c X htab hZ
  have hA : ∀ q, s.heap.size ≤ q → (va_A ([(ho, .inl (cB, 1, .inr (.inl f)))] ++ z_w cI cZ cT o S) s.heap.size) q := fun _ h => Or.inr h
  refine j_aload_n X 2 dL_lasts_0 rfl rfl ?_
  refine j_iconst (v := nI 0) X (by decide) dL_lasts_1 ?_
  refine j_aload_n X 0 dL_lasts_2 rfl rfl ?_
  refine j_iload_n X 1 dL_lasts_3 rfl rfl ?_
  refine x_callX X hA hZ (rest := [.int (nI 0), .ref ho]) [(ho, .inl (cB, 1, .inr (.inl f)))] [.int a1] hM 1 rfl gL_lasts_X5_lasts rfl ⟨rfl, rfl⟩ hw_lasts ⟨Nat.le_of_ble_eq_true rfl, Nat.le_of_ble_eq_true rfl⟩ rfl (Nat.le_of_ble_eq_true rfl) ⟨Nat.le_of_ble_eq_true rfl, Nat.le_of_ble_eq_true rfl⟩ dL_lasts_4 [] (⟨0, 9, 12, 25⟩ : ExceptionTableEntry) [] (htab.trans rfl) (fun z hz => absurd hz List.not_mem_nil) (by decide) (by decide) wl_lasts_IOB (by decide +kernel) (fun qe => ?_)
  refine j_astore_n X dL_lasts_12 rfl (by decide) rfl ?_
  refine j_iconst (v := nI 1) X (by decide) dL_lasts_13 ?_
  exact j_iret X (f, S) rfl dL_lasts_14 rfl
theorem hw_advise : yX5_advise.cls = RX5 ∧ yX5_advise.cls ≠ "java/lang/invoke/MethodHandle" ∧ yX5_advise.cls ≠ "java/lang/invoke/VarHandle" ∧ (parseMethodDescriptor yX5_advise.desc).map (fun d => d.parameters.length) = some 2 := by decide +kernel
theorem wl_advise_IOB : Cond.classLink RL 25 "java/lang/IndexOutOfBoundsException" ∈ wsL_advise := by decide +kernel
set_option maxRecDepth 100000 in
set_option maxHeartbeats 4000000 in
theorem w_advise_IOB (l : Launch) (G : va_G) (K : Nat × Nat × (Nat → Int32)) (cI cZ cT cB : ClassId) (o ho : Nat) (S : zS) (f : Nat → Int64) (a1 a2 : Int32) (hM : zX l G cI cZ cT o yX5_advise wsX5_advise { frames := 7, cells := 1, slots := 6, locals := 158 } [.ref (o + 0), .int a1, .int a2] S "java/lang/IndexOutOfBoundsException") : jI l G K (j_ty cI cZ cT cB) yL_advise wsL_advise { frames := 8, cells := 1, slots := 6, locals := 184 } ([(ho, .inl (cB, 1, .inr (.inl f)))] ++ z_w cI cZ cT o S) [.ref o, .int a1, .int a2, .ref ho] 1 6 (fun r (u : (Nat → Int64) × zS) => r = nI 1) (fun u => [(ho, .inl (cB, 1, .inr (.inl u.1)))] ++ z_w cI cZ cT o u.2) := by
  refine j_ofW (cc := cL_advise) (maxL := 5) (hh := [(0, 10, 13, 25), (0, 10, 17, 19)]) (by decide) rfl (Nat.le_of_ble_eq_true rfl) ?_
  intro p e s m args below meth c X htab hZ
  have hA : ∀ q, s.heap.size ≤ q → (va_A ([(ho, .inl (cB, 1, .inr (.inl f)))] ++ z_w cI cZ cT o S) s.heap.size) q := fun _ h => Or.inr h
  refine j_aload_n X 3 dL_advise_0 rfl rfl ?_
  refine j_iconst (v := nI 0) X (by decide) dL_advise_1 ?_
  refine j_aload_n X 0 dL_advise_2 rfl rfl ?_
  refine j_iload_n X 1 dL_advise_3 rfl rfl ?_
  refine j_iload_n X 2 dL_advise_4 rfl rfl ?_
  refine x_callX X hA hZ (rest := [.int (nI 0), .ref ho]) [(ho, .inl (cB, 1, .inr (.inl f)))] [.int a1, .int a2] hM 2 rfl gL_advise_X5_advise rfl ⟨rfl, rfl⟩ hw_advise ⟨Nat.le_of_ble_eq_true rfl, Nat.le_of_ble_eq_true rfl⟩ rfl (Nat.le_of_ble_eq_true rfl) ⟨Nat.le_of_ble_eq_true rfl, Nat.le_of_ble_eq_true rfl⟩ dL_advise_5 [] (⟨0, 10, 13, 25⟩ : ExceptionTableEntry) [(⟨0, 10, 17, 19⟩ : ExceptionTableEntry)] (htab.trans rfl) (fun z hz => absurd hz List.not_mem_nil) (by decide) (by decide) wl_advise_IOB (by decide +kernel) (fun qe => ?_)
  refine j_astore X dL_advise_13 (by decide) rfl ?_
  refine j_iconst (v := nI 1) X (by decide) dL_advise_15 ?_
  exact j_iret X (f, S) rfl dL_advise_16 rfl
theorem wl_advise_IAE : Cond.classLink RL 19 "java/lang/IllegalArgumentException" ∈ wsL_advise := by decide +kernel
set_option maxRecDepth 100000 in
set_option maxHeartbeats 4000000 in
theorem w_advise_IAE (l : Launch) (G : va_G) (K : Nat × Nat × (Nat → Int32)) (cI cZ cT cB : ClassId) (o ho : Nat) (S : zS) (f : Nat → Int64) (a1 a2 : Int32) (hM : zX l G cI cZ cT o yX5_advise wsX5_advise { frames := 7, cells := 1, slots := 6, locals := 158 } [.ref (o + 0), .int a1, .int a2] S "java/lang/IllegalArgumentException") : jI l G K (j_ty cI cZ cT cB) yL_advise wsL_advise { frames := 8, cells := 1, slots := 6, locals := 184 } ([(ho, .inl (cB, 1, .inr (.inl f)))] ++ z_w cI cZ cT o S) [.ref o, .int a1, .int a2, .ref ho] 1 6 (fun r (u : (Nat → Int64) × zS) => r = nI 2) (fun u => [(ho, .inl (cB, 1, .inr (.inl u.1)))] ++ z_w cI cZ cT o u.2) := by
  refine j_ofW (cc := cL_advise) (maxL := 5) (hh := [(0, 10, 13, 25), (0, 10, 17, 19)]) (by decide) rfl (Nat.le_of_ble_eq_true rfl) ?_
  intro p e s m args below meth c X htab hZ
  have hA : ∀ q, s.heap.size ≤ q → (va_A ([(ho, .inl (cB, 1, .inr (.inl f)))] ++ z_w cI cZ cT o S) s.heap.size) q := fun _ h => Or.inr h
  refine j_aload_n X 3 dL_advise_0 rfl rfl ?_
  refine j_iconst (v := nI 0) X (by decide) dL_advise_1 ?_
  refine j_aload_n X 0 dL_advise_2 rfl rfl ?_
  refine j_iload_n X 1 dL_advise_3 rfl rfl ?_
  refine j_iload_n X 2 dL_advise_4 rfl rfl ?_
  refine x_callX X hA hZ (rest := [.int (nI 0), .ref ho]) [(ho, .inl (cB, 1, .inr (.inl f)))] [.int a1, .int a2] hM 2 rfl gL_advise_X5_advise rfl ⟨rfl, rfl⟩ hw_advise ⟨Nat.le_of_ble_eq_true rfl, Nat.le_of_ble_eq_true rfl⟩ rfl (Nat.le_of_ble_eq_true rfl) ⟨Nat.le_of_ble_eq_true rfl, Nat.le_of_ble_eq_true rfl⟩ dL_advise_5 [(⟨0, 10, 13, 25⟩ : ExceptionTableEntry)] (⟨0, 10, 17, 19⟩ : ExceptionTableEntry) [] (htab.trans rfl) (fun z hz => by
      simp only [List.mem_cons, List.not_mem_nil, or_false] at hz
      rcases hz with rfl
      · exact ⟨by decide, "java/lang/IndexOutOfBoundsException", wl_advise_IOB, hZ.2.2.2.1.2.2.1.2 ("java/lang/IllegalArgumentException", "java/lang/IndexOutOfBoundsException") (by decide +kernel)⟩) (by decide) (by decide) wl_advise_IAE (by decide +kernel) (fun qe => ?_)
  refine j_astore X dL_advise_17 (by decide) rfl ?_
  refine j_iconst (v := nI 2) X (by decide) dL_advise_19 ?_
  exact j_iret X (f, S) rfl dL_advise_20 rfl
theorem hw_byteAt : yX5_byteAt.cls = RX5 ∧ yX5_byteAt.cls ≠ "java/lang/invoke/MethodHandle" ∧ yX5_byteAt.cls ≠ "java/lang/invoke/VarHandle" ∧ (parseMethodDescriptor yX5_byteAt.desc).map (fun d => d.parameters.length) = some 1 := by decide +kernel
theorem wl_byteAt_IOB : Cond.classLink RL 25 "java/lang/IndexOutOfBoundsException" ∈ wsL_byteAt := by decide +kernel
set_option maxRecDepth 100000 in
set_option maxHeartbeats 4000000 in
theorem w_byteAt_IOB (l : Launch) (G : va_G) (K : Nat × Nat × (Nat → Int32)) (cI cZ cT cB : ClassId) (o ho : Nat) (S : zS) (f : Nat → Int64) (a1 : Int32) (hM : zX l G cI cZ cT o yX5_byteAt wsX5_byteAt { frames := 6, cells := 1, slots := 6, locals := 82 } [.ref (o + 0), .int a1] S "java/lang/IndexOutOfBoundsException") : jI l G K (j_ty cI cZ cT cB) yL_byteAt wsL_byteAt { frames := 7, cells := 1, slots := 6, locals := 103 } ([(ho, .inl (cB, 1, .inr (.inl f)))] ++ z_w cI cZ cT o S) [.ref o, .int a1, .ref ho] 1 6 (fun r (u : (Nat → Int64) × zS) => r = nI 1) (fun u => [(ho, .inl (cB, 1, .inr (.inl u.1)))] ++ z_w cI cZ cT o u.2) := by
  refine j_ofW (cc := cL_byteAt) (maxL := 4) (hh := [(0, 9, 12, 25)]) (by decide) rfl (Nat.le_of_ble_eq_true rfl) ?_
  intro p e s m args below meth c X htab hZ
  have hA : ∀ q, s.heap.size ≤ q → (va_A ([(ho, .inl (cB, 1, .inr (.inl f)))] ++ z_w cI cZ cT o S) s.heap.size) q := fun _ h => Or.inr h
  refine j_aload_n X 2 dL_byteAt_0 rfl rfl ?_
  refine j_iconst (v := nI 0) X (by decide) dL_byteAt_1 ?_
  refine j_aload_n X 0 dL_byteAt_2 rfl rfl ?_
  refine j_iload_n X 1 dL_byteAt_3 rfl rfl ?_
  refine x_callX X hA hZ (rest := [.int (nI 0), .ref ho]) [(ho, .inl (cB, 1, .inr (.inl f)))] [.int a1] hM 1 rfl gL_byteAt_X5_byteAt rfl ⟨rfl, rfl⟩ hw_byteAt ⟨Nat.le_of_ble_eq_true rfl, Nat.le_of_ble_eq_true rfl⟩ rfl (Nat.le_of_ble_eq_true rfl) ⟨Nat.le_of_ble_eq_true rfl, Nat.le_of_ble_eq_true rfl⟩ dL_byteAt_4 [] (⟨0, 9, 12, 25⟩ : ExceptionTableEntry) [] (htab.trans rfl) (fun z hz => absurd hz List.not_mem_nil) (by decide) (by decide) wl_byteAt_IOB (by decide +kernel) (fun qe => ?_)
  refine j_astore_n X dL_byteAt_12 rfl (by decide) rfl ?_
  refine j_iconst (v := nI 1) X (by decide) dL_byteAt_13 ?_
  exact j_iret X (f, S) rfl dL_byteAt_14 rfl
end ZMW
