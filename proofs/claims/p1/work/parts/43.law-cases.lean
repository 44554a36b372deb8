section ZML
variable {p : Program} {l : Launch} {e : Env} {R : Room} {s : State} {m : MethodId} {args : Array Value} {below : List Frame} {meth : Method} {c : Code} {Q : State → Prop}
variable {G : va_G} {nL k9 q9 : Nat} {cc : ByteArray} {own : String} {Ts : List Cond} {rt : Option FieldType} {tys : List (ClassId × FieldType)} {K : Nat × Nat × (Nat → Int32)} {A : Nat → Prop} {ws ws' : va_W} {pc : Nat} {lo lo' : List (Nat × Value)} {st rest : List Value} {cI cZ cT cB : ClassId} {o : Nat}
theorem j_tsw (X : j_X p s m args meth c cc nL own Ts rt G tys) {dflt lo9 hi : Int} {offs : Array Int} {len : Nat} {x : Int32} {off : Int} {tgt : Nat} (hd : decode cc pc = .ok (.tableswitch dflt lo9 hi offs, len)) (h1 : ¬ x.toInt < lo9) (h2 : ¬ hi < x.toInt) (ho : offs[(x.toInt - lo9).toNat]? = some off) (ht : (pc : Int) + off = (tgt : Int)) (kk : j_V p l e R s m args below meth c Q G nL A k9 q9 ws tgt lo st) : j_V p l e R s m args below meth c Q G nL A k9 q9 ws pc lo (.int x :: st) := fun H locs ls hP hD hS h => lv_tableIn X.1.1 X.1.2.1 hd h1 h2 ho ht (kk H locs ls hP hD hS h)
theorem j_tswO (X : j_X p s m args meth c cc nL own Ts rt G tys) {dflt lo9 hi : Int} {offs : Array Int} {len : Nat} {x : Int32} {tgt : Nat} (hd : decode cc pc = .ok (.tableswitch dflt lo9 hi offs, len)) (hx : x.toInt < lo9 ∨ hi < x.toInt) (ht : (pc : Int) + dflt = (tgt : Int)) (kk : j_V p l e R s m args below meth c Q G nL A k9 q9 ws tgt lo st) : j_V p l e R s m args below meth c Q G nL A k9 q9 ws pc lo (.int x :: st) := fun H locs ls hP hD hS h => lv_tableOut X.1.1 X.1.2.1 hd hx ht (kk H locs ls hP hD hS h)
theorem j_dcmp (X : j_X p s m args meth c cc nL own Ts rt G tys) {x y : UInt64} {op : CmpOp} (hd : decode cc pc = .ok (.dcmp op, 1)) (kk : j_V p l e R s m args below meth c Q G nL A k9 q9 ws (pc + 1) lo (.int (Op.cmpValue (FP.dcmp x y) op) :: st)) : j_V p l e R s m args below meth c Q G nL A k9 q9 ws pc lo (.double y :: .double x :: st) := fun H locs ls hP hD hS h => lv_dcmp X.1.1 X.1.2.1 hd (kk H locs ls hP hD hS h)
theorem j_dload (X : j_X p s m args meth c cc nL own Ts rt G tys) {i : Nat} {x : UInt64} (q : Nat) (hd : decode cc pc = .ok (.dload i, 2)) (hl : lo[q]? = some (i, .double x)) (kk : j_V p l e R s m args below meth c Q G nL A k9 q9 ws (pc + 2) lo (.double x :: st)) : j_V p l e R s m args below meth c Q G nL A k9 q9 ws pc lo st := fun H locs ls hP hD hS h => lv_dload X.1.1 X.1.2.1 hd (lv_at h q hl) (kk H locs ls hP hD hS h)
theorem j_dstore (X : j_X p s m args meth c cc nL own Ts rt G tys) {i : Nat} {x : UInt64} (hd : decode cc pc = .ok (.dstore i, 2)) (hn : i + 1 < nL) (hl : (i, Value.double x) :: lo.filter (fun q => !(q.1 == i) && (!(q.1 == i + 1) && !(q.1 + 1 == i && q.2.category == 2))) = lo') (kk : j_V p l e R s m args below meth c Q G nL A k9 q9 ws (pc + 2) lo' st) : j_V p l e R s m args below meth c Q G nL A k9 q9 ws pc lo (.double x :: st) := fun H locs ls hP hD hS h => lv_dstore X.1.1 X.1.2.1 hd h hn hl (fun ls' h' => kk H locs ls' hP hD hS h')
theorem cmp_self (x : Int64) : lg_cmp x x = 0 := by
  unfold lg_cmp
  rw [if_neg (Int64.lt_irrefl), if_pos rfl]
theorem and31 (x : Int32) : ∃ q : Nat, q < 32 ∧ x &&& 31 = nI q := by
  refine ⟨(x &&& 31).toBitVec.toNat, ?_, ?_⟩
  · show (x.toBitVec &&& (31 : Int32).toBitVec).toNat < 32
    rw [BitVec.toNat_and]
    exact Nat.lt_of_le_of_lt Nat.and_le_right (by decide)
  · apply Int32.toBitVec_inj.mp
    show (x &&& 31).toBitVec = BitVec.ofNat 32 (x &&& 31).toBitVec.toNat
    simp
theorem j_callZD (X : j_X p s m args meth c cc nL own Ts rt G (j_ty cI cZ cT cB)) (hA : ∀ q, s.heap.size ≤ q → A q) (hZ : j_Z K A s s.heap) {y : MethodName} {bytes : ByteArray} {maxL idx : Nat} {ret : Option FieldType} {w9 w9' : List Cond} {rm : Room} {post : UInt64 → zS → Prop} (more : va_W) {S : zS} (As : List Value) (hM : zD l G cI cZ cT o y w9 rm (.ref (o + 0) :: As) S post) (n : Nat) (hn : As.length = n) (hT : GoodIn Ts (wsV own idx RX5 y w9)) (hw : w9 = Cond.code y bytes maxL ret :: w9') (hrm : rm.cells = 0 ∧ rm.slots = 0) (hy : y.cls = RX5 ∧ y.cls ≠ "java/lang/invoke/MethodHandle" ∧ y.cls ≠ "java/lang/invoke/VarHandle" ∧ (parseMethodDescriptor y.desc).map (fun d => d.parameters.length) = some n) (hR : rm.frames + 1 ≤ R.frames ∧ 8 + (maxL + 11) + rm.locals ≤ R.locals) {stk : List Value} (hst : stk = As.reverse ++ [.ref o]) (hW : (rest.map fun v => v.category).sum ≤ 8) (hf : k9 ≤ R.cells ∧ q9 ≤ R.slots) (hd : decode cc pc = .ok (.invokevirtual idx, 3)) (kk : ∀ (r : UInt64) (u : zS), post r u → j_V p l e R s m args below meth c Q G nL A k9 q9 (more ++ z_w cI cZ cT o u) (pc + 3) lo (.double r :: rest)) : j_V p l e R s m args below meth c Q G nL A k9 q9 (more ++ z_w cI cZ cT o S) pc lo (stk ++ rest) := fun H locs ls hP hD hS h => by
  subst hst
  obtain ⟨hFA, hPz, start⟩ := z_begin X.2.1 hA hZ hP hD hS (.ref (o + 0) :: As)
  refine va_calld (va_runV (As := As) (rest := rest) X.1 (hM H.size) (cwV n X.1.2.2.2.2 hT hw hrm.1 hrm.2 hy hR) ⟨z_blind G cI cZ cT o H.size S _, va_recv X.2.1 hPz (ci := 5) (q0 := 0) rfl (by rw [z_w_get cI cZ cT o S (j := 0) (by decide), zc_X]), start⟩ rfl hn h.1 (by simp [F0]) (lv_room hW) hd hf) hS (fun q _ g => hFA q g) hFA (fun r u t H1 locs1 ht hvm hp9 hB hz1 hk1 hS1 => ?_)
  have hB1 : va_P G vwCl (z_w cI cZ cT o u) H1 := by
    have h9 : va_P G vwCl (z_w cI cZ cT o u) t.heap := hB
    rw [ht] at h9; exact h9
  obtain ⟨j1, j2⟩ := z_join hP hD hFA hk1 hB1
  exact kk r u hp9 H1 locs1 ls j1 j2 hS1 h
end ZML
section ZMQ
variable {p : Program} {l : Launch} {e : Env} {s : State} {m : MethodId} {below : List Frame} {meth : Method} {c : Code} {G : va_G} {K : Nat × Nat × (Nat → Int32)} {cI cZ cT cB : ClassId} {o ho : Nat} {ad : Nat → Nat} {k9 q9 : Nat} {ws : va_W}
theorem hA_law : ∀ q, s.heap.size ≤ q → va_A ([] : va_W) s.heap.size q := fun _ h => Or.inr h
theorem hA2_law : ∀ q, va_A ([] : va_W) s.heap.size q → s.heap.size ≤ q := fun q h => h.elim (fun ⟨k, e, h⟩ => by cases h) id
theorem law_arg (X : j_X p s m #[Value.ref K.1] meth c code 9 RL wsL_law ret G (j_ty cI cZ cT cB)) (hZ : j_Z K (va_A ([] : va_W) s.heap.size) s s.heap) (hL : K.2.1 = 6) {lo : List (Nat × Value)} {st : List Value} {pc : Nat} (q0 q4 j : Nat) {n : Int} (hl0 : lo[q0]? = some (0, .ref K.1)) (hl4 : lo[q4]? = some (4, .int (nI 0))) (hn : Int32.ofInt n = nI j) (hj : j < 6) (h0 : decode code pc = .ok (.aload_n 0, 1)) (h1 : decode code (pc + 1) = .ok (.iload 4, 2)) (h3 : decode code (pc + 3) = .ok (.iconst n, 1)) (h4 : decode code (pc + 4) = .ok (.iadd, 1)) (h5 : decode code (pc + 5) = .ok (.iaload, 1)) (kk : j_V p l e room_1 s m #[Value.ref K.1] below meth c (lw_Z below #[Value.ref K.1] s) G 9 (va_A ([] : va_W) s.heap.size) k9 q9 ws (pc + 6) lo (.int (K.2.2 j) :: st)) : j_V p l e room_1 s m #[Value.ref K.1] below meth c (lw_Z below #[Value.ref K.1] s) G 9 (va_A ([] : va_W) s.heap.size) k9 q9 ws pc lo st := by
  refine j_aload_n X q0 h0 rfl hl0 ?_
  refine j_iload X q4 h1 hl4 ?_
  refine j_iconst (v := nI j) X hn h3 ?_
  refine j_iadd X h4 ?_
  refine j_top (y := nI j) ((nI_add 0 j).trans (by rw [Nat.zero_add])) ?_
  refine j_sld X hZ.1.1 hZ.1.2.1 hZ.1.2.2 (by rw [hL]; exact vp_in_nI hj (by decide)) h5 ?_
  rw [nI_clamp (by omega)]
  exact kk
theorem law_end (X : j_X p s m #[Value.ref K.1] meth c code 9 RL wsL_law ret G (j_ty cI cZ cT cB)) (hZ : j_Z K (va_A ([] : va_W) s.heap.size) s s.heap) (hk9 : k9 ≤ 600002) (hq9 : q9 ≤ 7302232) {lo : List (Nat × Value)} : j_V p l e room_1 s m #[Value.ref K.1] below meth c (lw_Z below #[Value.ref K.1] s) G 9 (va_A ([] : va_W) s.heap.size) k9 q9 ws 1587 lo [] := by
  refine j_iconst (v := 1) X (by decide) dL_law_1587 ?_
  intro H locs ls hP hD hS h
  exact va_forget (fun q hq => hA2_law _ (hS.2.2 q hq)) (W.widen hk9 hq9 (W.base (lw_ret (d0 := s.drawn) (Drawn.sameBut.refl s.drawn lw_cs) X.1.1 X.1.2.1 X.2.2.1 X.2.2.2 dL_law_1588)))
theorem law_fin (X : j_X p s m #[Value.ref K.1] meth c code 9 RL wsL_law ret G (j_ty cI cZ cT cB)) (hZ : j_Z K (va_A ([] : va_W) s.heap.size) s s.heap) (hL : K.2.1 = 6) (hk9 : k9 ≤ 600002) (hq9 : q9 ≤ 7302232) : j_V p l e room_1 s m #[Value.ref K.1] below meth c (lw_Z below #[Value.ref K.1] s) G 9 (va_A ([] : va_W) s.heap.size) k9 q9 ws 1581 [(4, .int (nI 0)), (0, .ref K.1)] [] := by
  refine j_iinc (v := nI 6) (lo' := [(4, .int (nI 6)), (0, .ref K.1)]) X 0 dL_law_1581 rfl (by decide) (by decide) rfl ?_
  refine j_goto X (tgt := 23) dL_law_1584 (by decide) ?_
  refine j_iload X 0 dL_law_23 rfl ?_
  refine j_aload_n X 1 dL_law_25 rfl rfl ?_
  refine j_slen X hZ.1.1 hZ.1.2.1 hZ.1.2.2 dL_law_26 ?_
  refine j_bipush (v := 6) X (by decide) dL_law_27 ?_
  refine j_isub X dL_law_29 ?_
  refine j_icmp_gt X (tgt := 1587) dL_law_30 (by decide) (fun _ => ?_) (fun c9 => absurd (show nI K.2.1 - 6 < nI 6 by rw [hL]; decide) c9)
  exact law_end X hZ hk9 hq9
theorem lwq_1 (h z m9 : va_W) : ((h ++ z) ++ m9).Perm ((h ++ m9) ++ z) := by
  rw [List.append_assoc, List.append_assoc]
  exact List.Perm.append_left h List.perm_append_comm
theorem lwq_2 (z m9 : va_W) (q : Nat × va_E) : ((z ++ m9) ++ [q]).Perm (([q] ++ z) ++ m9) := by
  rw [List.append_assoc [q] z m9]
  exact List.perm_append_comm
theorem hm_thrown : yX7_thrown.cls = RX7 ∧ yX7_thrown.cls ≠ "java/lang/invoke/MethodHandle" ∧ yX7_thrown.cls ≠ "java/lang/invoke/VarHandle" ∧ (parseMethodDescriptor yX7_thrown.desc).map (fun d => d.parameters.length) = some 0 := by decide +kernel
theorem hL_feed : yL_feed.cls ≠ "java/lang/invoke/MethodHandle" ∧ yL_feed.cls ≠ "java/lang/invoke/VarHandle" ∧ (parseMethodDescriptor yL_feed.desc).map (fun d => d.parameters.length) = some 7 := by decide +kernel
theorem hm_feed : yX7_feed.cls = RX7 ∧ yX7_feed.cls ≠ "java/lang/invoke/MethodHandle" ∧ yX7_feed.cls ≠ "java/lang/invoke/VarHandle" ∧ (parseMethodDescriptor yX7_feed.desc).map (fun d => d.parameters.length) = some 5 := by decide +kernel
set_option maxRecDepth 100000 in
set_option maxHeartbeats 4000000 in
theorem lc_feed_t (X : j_X p s m #[Value.ref K.1] meth c code 9 RL wsL_law ret G (j_ty cI cZ cT cB)) (hZ : j_Z K (va_A ([] : va_W) s.heap.size) s s.heap) (hL : K.2.1 = 6) (k : Nat) (hk1 : 1 ≤ k) (hk3 : k ≤ 3) (V : Int32) (hW : jI l G K (j_ty cI cZ cT cB) yL_feed wsL_feed { frames := 7, cells := 1, slots := 6, locals := 107 } ([(ho, .inl (cB, 1, .inr (.inl (fun _ => 0))))] ++ z_w cI cZ cT o z_S0) [.ref o, .int (K.2.2 1), .int (K.2.2 2), .int (K.2.2 3), .int (K.2.2 4), .int (K.2.2 5), .ref ho] 1 6 (fun r (u : (Nat → Int64) × zS) => r = nI k) (fun u => [(ho, .inl (cB, 1, .inr (.inl u.1)))] ++ z_w cI cZ cT o u.2)) (hM : jI l G K (j_ty cI cZ cT cB) yX7_feed wsX7_feed { frames := 1, cells := 1, slots := 5, locals := 21 } (m_w cI cZ ad m_Z0) [.ref (ad 0), .int (K.2.2 1), .int (K.2.2 2), .int (K.2.2 3), .int (K.2.2 4), .int (K.2.2 5)] 1 5 (fun r (u : mS) => r = V ∧ u 0 0 = nI k) (fun u => m_w cI cZ ad u)) : j_V p l e room_1 s m #[Value.ref K.1] below meth c (lw_Z below #[Value.ref K.1] s) G 9 (va_A ([] : va_W) s.heap.size) 200 20000 (([(ho, .inl (cB, 1, .inr (.inl (fun _ => 0))))] ++ z_w cI cZ cT o z_S0) ++ m_w cI cZ ad m_Z0) 148 [(4, .int (nI 0)), (3, .ref ho), (2, .ref (ad 0)), (1, .ref o), (0, .ref K.1)] [] := by
  have hA := hA_law (s := s)
  refine j_aload_n X 3 dL_law_148 rfl rfl ?_
  refine law_arg X hZ hL 4 0 1 rfl rfl (by decide) (by decide) dL_law_149 dL_law_150 dL_law_152 dL_law_153 dL_law_154 ?_
  refine law_arg X hZ hL 4 0 2 rfl rfl (by decide) (by decide) dL_law_155 dL_law_156 dL_law_158 dL_law_159 dL_law_160 ?_
  refine law_arg X hZ hL 4 0 3 rfl rfl (by decide) (by decide) dL_law_161 dL_law_162 dL_law_164 dL_law_165 dL_law_166 ?_
  refine law_arg X hZ hL 4 0 4 rfl rfl (by decide) (by decide) dL_law_167 dL_law_168 dL_law_170 dL_law_171 dL_law_172 ?_
  refine law_arg X hZ hL 4 0 5 rfl rfl (by decide) (by decide) dL_law_173 dL_law_174 dL_law_176 dL_law_177 dL_law_178 ?_
  refine j_aload_n X 1 dL_law_179 rfl rfl ?_
  refine p_callWI (p := p) (l := l) (e := e) (below := below) (Q := lw_Z below #[Value.ref K.1] s) (R := room_1) (k9 := 200) (q9 := 20000) (pc := 180) (lo := [(4, .int (nI 0)), (3, .ref ho), (2, .ref (ad 0)), (1, .ref o), (0, .ref K.1)]) X hA hZ (rest := []) ([(ho, .inl (cB, 1, .inr (.inl (fun _ => 0))))] ++ z_w cI cZ cT o z_S0) (m_w cI cZ ad m_Z0) (fun u : (Nat → Int64) × zS => ([(ho, .inl (cB, 1, .inr (.inl u.1)))] ++ z_w cI cZ cT o u.2) ++ m_w cI cZ ad m_Z0) (List.Perm.refl _) (fun _ => List.perm_append_comm) [.ref o, .int (K.2.2 1), .int (K.2.2 2), .int (K.2.2 3), .int (K.2.2 4), .int (K.2.2 5), .ref ho] hW 7 rfl gL_law_L_feed rfl ⟨rfl, rfl⟩ hL_feed ⟨Nat.le_of_ble_eq_true rfl, Nat.le_of_ble_eq_true rfl⟩ rfl (Nat.le_of_ble_eq_true rfl) ⟨by show 200 + 1 ≤ 600002; omega, by show 20000 + 6 ≤ 7302232; omega⟩ dL_law_180 (fun r9 u9 h9 => ?_)
  replace h9 := h9.symm
  subst h9
  refine j_istore (lo' := [(5, .int (nI k)), (4, .int (nI 0)), (3, .ref ho), (2, .ref (ad 0)), (1, .ref o), (0, .ref K.1)]) X dL_law_183 (by decide) rfl ?_
  refine j_aload_n X 3 dL_law_185 rfl rfl ?_
  refine law_arg X hZ hL 5 1 1 rfl rfl (by decide) (by decide) dL_law_186 dL_law_187 dL_law_189 dL_law_190 dL_law_191 ?_
  refine law_arg X hZ hL 5 1 2 rfl rfl (by decide) (by decide) dL_law_192 dL_law_193 dL_law_195 dL_law_196 dL_law_197 ?_
  refine law_arg X hZ hL 5 1 3 rfl rfl (by decide) (by decide) dL_law_198 dL_law_199 dL_law_201 dL_law_202 dL_law_203 ?_
  refine law_arg X hZ hL 5 1 4 rfl rfl (by decide) (by decide) dL_law_204 dL_law_205 dL_law_207 dL_law_208 dL_law_209 ?_
  refine law_arg X hZ hL 5 1 5 rfl rfl (by decide) (by decide) dL_law_210 dL_law_211 dL_law_213 dL_law_214 dL_law_215 ?_
  refine p_callVI (p := p) (l := l) (e := e) (below := below) (Q := lw_Z below #[Value.ref K.1] s) (R := room_1) (k9 := 200 + 1) (q9 := 20000 + 6) (pc := 216) (lo := [(5, .int (nI k)), (4, .int (nI 0)), (3, .ref ho), (2, .ref (ad 0)), (1, .ref o), (0, .ref K.1)]) X hA hZ (rest := []) (m_w cI cZ ad m_Z0) ([(ho, .inl (cB, 1, .inr (.inl u9.1)))] ++ z_w cI cZ cT o u9.2) (fun u => ([(ho, .inl (cB, 1, .inr (.inl u9.1)))] ++ z_w cI cZ cT o u9.2) ++ m_w cI cZ ad u) List.perm_append_comm (fun _ => List.Perm.refl _) [.int (K.2.2 1), .int (K.2.2 2), .int (K.2.2 3), .int (K.2.2 4), .int (K.2.2 5)] 0 rfl rfl hM 5 rfl gL_law_X7_feed rfl ⟨rfl, rfl⟩ hm_feed ⟨Nat.le_of_ble_eq_true rfl, Nat.le_of_ble_eq_true rfl⟩ rfl (Nat.le_of_ble_eq_true rfl) ⟨by show 200 + 1 + 1 ≤ 600002; omega, by show 20000 + 6 + 5 ≤ 7302232; omega⟩ dL_law_216 (fun r8 u8 h8 => ?_)
  obtain ⟨h8a, h8b⟩ := h8
  replace h8a := h8a.symm
  subst h8a
  refine j_istore (lo' := [(6, .int V), (5, .int (nI k)), (4, .int (nI 0)), (3, .ref ho), (2, .ref (ad 0)), (1, .ref o), (0, .ref K.1)]) X dL_law_219 (by decide) rfl ?_
  refine j_aload_n X 4 dL_law_221 rfl rfl ?_
  refine p_callVI (p := p) (l := l) (e := e) (below := below) (Q := lw_Z below #[Value.ref K.1] s) (R := room_1) (k9 := 200 + 1 + 1) (q9 := 20000 + 6 + 5) (pc := 222) (lo := [(6, .int V), (5, .int (nI k)), (4, .int (nI 0)), (3, .ref ho), (2, .ref (ad 0)), (1, .ref o), (0, .ref K.1)]) X hA hZ (rest := []) (m_w cI cZ ad u8) ([(ho, .inl (cB, 1, .inr (.inl u9.1)))] ++ z_w cI cZ cT o u9.2) (fun u => ([(ho, .inl (cB, 1, .inr (.inl u9.1)))] ++ z_w cI cZ cT o u9.2) ++ m_w cI cZ ad u) List.perm_append_comm (fun _ => List.Perm.refl _) [] 0 rfl rfl (m_thrown (cI := cI) (cZ := cZ) (cT := cT) (cB := cB) ad u8) 0 rfl gL_law_X7_thrown rfl ⟨rfl, rfl⟩ hm_thrown ⟨Nat.le_of_ble_eq_true rfl, Nat.le_of_ble_eq_true rfl⟩ rfl (Nat.le_of_ble_eq_true rfl) ⟨by show 200 + 1 + 1 + 0 ≤ 600002; omega, by show 20000 + 6 + 5 + 0 ≤ 7302232; omega⟩ dL_law_222 (fun r7 u7 h7 => ?_)
  refine j_top (y := nI k) (h7.1.trans h8b) ?_
  refine j_iload X 1 dL_law_225 rfl ?_
  refine j_icmp_eq X (tgt := 232) dL_law_227 (by decide) (fun _ => ?_) (fun c9 => absurd rfl c9)
  refine j_iload X 1 dL_law_232 rfl ?_
  refine j_nif_ne X k rfl (by omega) (tgt := 249) dL_law_234 (by decide) (fun _ => ?_) (fun c9 => absurd c9 (by omega))
  refine j_goto X (tgt := 1581) dL_law_249 (by decide) ?_
  refine j_lo [2, 6] (lo' := [(4, .int (nI 0)), (0, .ref K.1)]) rfl ?_
  exact law_fin X hZ hL (Nat.le_of_ble_eq_true rfl) (Nat.le_of_ble_eq_true rfl)
set_option maxRecDepth 100000 in
set_option maxHeartbeats 4000000 in
theorem lc_feed_n (X : j_X p s m #[Value.ref K.1] meth c code 9 RL wsL_law ret G (j_ty cI cZ cT cB)) (hZ : j_Z K (va_A ([] : va_W) s.heap.size) s s.heap) (hL : K.2.1 = 6) (V : Int32) (hW : jI l G K (j_ty cI cZ cT cB) yL_feed wsL_feed { frames := 2, cells := 0, slots := 0, locals := 47 } ([(ho, .inl (cB, 1, .inr (.inl (fun _ => 0))))] ++ z_w cI cZ cT o z_S0) [.ref o, .int (K.2.2 1), .int (K.2.2 2), .int (K.2.2 3), .int (K.2.2 4), .int (K.2.2 5), .ref ho] 0 0 (fun r (u : (Nat → Int64) × zS) => r = nI 0 ∧ u.1 0 = V.toInt64) (fun u => [(ho, .inl (cB, 1, .inr (.inl u.1)))] ++ z_w cI cZ cT o u.2)) (hM : jI l G K (j_ty cI cZ cT cB) yX7_feed wsX7_feed { frames := 1, cells := 1, slots := 5, locals := 21 } (m_w cI cZ ad m_Z0) [.ref (ad 0), .int (K.2.2 1), .int (K.2.2 2), .int (K.2.2 3), .int (K.2.2 4), .int (K.2.2 5)] 1 5 (fun r (u : mS) => r = V ∧ u 0 0 = nI 0) (fun u => m_w cI cZ ad u)) : j_V p l e room_1 s m #[Value.ref K.1] below meth c (lw_Z below #[Value.ref K.1] s) G 9 (va_A ([] : va_W) s.heap.size) 200 20000 (([(ho, .inl (cB, 1, .inr (.inl (fun _ => 0))))] ++ z_w cI cZ cT o z_S0) ++ m_w cI cZ ad m_Z0) 148 [(4, .int (nI 0)), (3, .ref ho), (2, .ref (ad 0)), (1, .ref o), (0, .ref K.1)] [] := by
  have hA := hA_law (s := s)
  refine j_aload_n X 3 dL_law_148 rfl rfl ?_
  refine law_arg X hZ hL 4 0 1 rfl rfl (by decide) (by decide) dL_law_149 dL_law_150 dL_law_152 dL_law_153 dL_law_154 ?_
  refine law_arg X hZ hL 4 0 2 rfl rfl (by decide) (by decide) dL_law_155 dL_law_156 dL_law_158 dL_law_159 dL_law_160 ?_
  refine law_arg X hZ hL 4 0 3 rfl rfl (by decide) (by decide) dL_law_161 dL_law_162 dL_law_164 dL_law_165 dL_law_166 ?_
  refine law_arg X hZ hL 4 0 4 rfl rfl (by decide) (by decide) dL_law_167 dL_law_168 dL_law_170 dL_law_171 dL_law_172 ?_
  refine law_arg X hZ hL 4 0 5 rfl rfl (by decide) (by decide) dL_law_173 dL_law_174 dL_law_176 dL_law_177 dL_law_178 ?_
  refine j_aload_n X 1 dL_law_179 rfl rfl ?_
  refine p_callWI (p := p) (l := l) (e := e) (below := below) (Q := lw_Z below #[Value.ref K.1] s) (R := room_1) (k9 := 200) (q9 := 20000) (pc := 180) (lo := [(4, .int (nI 0)), (3, .ref ho), (2, .ref (ad 0)), (1, .ref o), (0, .ref K.1)]) X hA hZ (rest := []) ([(ho, .inl (cB, 1, .inr (.inl (fun _ => 0))))] ++ z_w cI cZ cT o z_S0) (m_w cI cZ ad m_Z0) (fun u : (Nat → Int64) × zS => ([(ho, .inl (cB, 1, .inr (.inl u.1)))] ++ z_w cI cZ cT o u.2) ++ m_w cI cZ ad m_Z0) (List.Perm.refl _) (fun _ => List.perm_append_comm) [.ref o, .int (K.2.2 1), .int (K.2.2 2), .int (K.2.2 3), .int (K.2.2 4), .int (K.2.2 5), .ref ho] hW 7 rfl gL_law_L_feed rfl ⟨rfl, rfl⟩ hL_feed ⟨Nat.le_of_ble_eq_true rfl, Nat.le_of_ble_eq_true rfl⟩ rfl (Nat.le_of_ble_eq_true rfl) ⟨by show 200 + 0 ≤ 600002; omega, by show 20000 + 0 ≤ 7302232; omega⟩ dL_law_180 (fun r9 u9 h9 => ?_)
  obtain ⟨h9a, h9b⟩ := h9
  replace h9a := h9a.symm
  subst h9a
  refine j_istore (lo' := [(5, .int (nI 0)), (4, .int (nI 0)), (3, .ref ho), (2, .ref (ad 0)), (1, .ref o), (0, .ref K.1)]) X dL_law_183 (by decide) rfl ?_
  refine j_aload_n X 3 dL_law_185 rfl rfl ?_
  refine law_arg X hZ hL 5 1 1 rfl rfl (by decide) (by decide) dL_law_186 dL_law_187 dL_law_189 dL_law_190 dL_law_191 ?_
  refine law_arg X hZ hL 5 1 2 rfl rfl (by decide) (by decide) dL_law_192 dL_law_193 dL_law_195 dL_law_196 dL_law_197 ?_
  refine law_arg X hZ hL 5 1 3 rfl rfl (by decide) (by decide) dL_law_198 dL_law_199 dL_law_201 dL_law_202 dL_law_203 ?_
  refine law_arg X hZ hL 5 1 4 rfl rfl (by decide) (by decide) dL_law_204 dL_law_205 dL_law_207 dL_law_208 dL_law_209 ?_
  refine law_arg X hZ hL 5 1 5 rfl rfl (by decide) (by decide) dL_law_210 dL_law_211 dL_law_213 dL_law_214 dL_law_215 ?_
  refine p_callVI (p := p) (l := l) (e := e) (below := below) (Q := lw_Z below #[Value.ref K.1] s) (R := room_1) (k9 := 200 + 0) (q9 := 20000 + 0) (pc := 216) (lo := [(5, .int (nI 0)), (4, .int (nI 0)), (3, .ref ho), (2, .ref (ad 0)), (1, .ref o), (0, .ref K.1)]) X hA hZ (rest := []) (m_w cI cZ ad m_Z0) ([(ho, .inl (cB, 1, .inr (.inl u9.1)))] ++ z_w cI cZ cT o u9.2) (fun u => ([(ho, .inl (cB, 1, .inr (.inl u9.1)))] ++ z_w cI cZ cT o u9.2) ++ m_w cI cZ ad u) List.perm_append_comm (fun _ => List.Perm.refl _) [.int (K.2.2 1), .int (K.2.2 2), .int (K.2.2 3), .int (K.2.2 4), .int (K.2.2 5)] 0 rfl rfl hM 5 rfl gL_law_X7_feed rfl ⟨rfl, rfl⟩ hm_feed ⟨Nat.le_of_ble_eq_true rfl, Nat.le_of_ble_eq_true rfl⟩ rfl (Nat.le_of_ble_eq_true rfl) ⟨by show 200 + 0 + 1 ≤ 600002; omega, by show 20000 + 0 + 5 ≤ 7302232; omega⟩ dL_law_216 (fun r8 u8 h8 => ?_)
  obtain ⟨h8a, h8b⟩ := h8
  replace h8a := h8a.symm
  subst h8a
  refine j_istore (lo' := [(6, .int V), (5, .int (nI 0)), (4, .int (nI 0)), (3, .ref ho), (2, .ref (ad 0)), (1, .ref o), (0, .ref K.1)]) X dL_law_219 (by decide) rfl ?_
  refine j_aload_n X 4 dL_law_221 rfl rfl ?_
  refine p_callVI (p := p) (l := l) (e := e) (below := below) (Q := lw_Z below #[Value.ref K.1] s) (R := room_1) (k9 := 200 + 0 + 1) (q9 := 20000 + 0 + 5) (pc := 222) (lo := [(6, .int V), (5, .int (nI 0)), (4, .int (nI 0)), (3, .ref ho), (2, .ref (ad 0)), (1, .ref o), (0, .ref K.1)]) X hA hZ (rest := []) (m_w cI cZ ad u8) ([(ho, .inl (cB, 1, .inr (.inl u9.1)))] ++ z_w cI cZ cT o u9.2) (fun u => ([(ho, .inl (cB, 1, .inr (.inl u9.1)))] ++ z_w cI cZ cT o u9.2) ++ m_w cI cZ ad u) List.perm_append_comm (fun _ => List.Perm.refl _) [] 0 rfl rfl (m_thrown (cI := cI) (cZ := cZ) (cT := cT) (cB := cB) ad u8) 0 rfl gL_law_X7_thrown rfl ⟨rfl, rfl⟩ hm_thrown ⟨Nat.le_of_ble_eq_true rfl, Nat.le_of_ble_eq_true rfl⟩ rfl (Nat.le_of_ble_eq_true rfl) ⟨by show 200 + 0 + 1 + 0 ≤ 600002; omega, by show 20000 + 0 + 5 + 0 ≤ 7302232; omega⟩ dL_law_222 (fun r7 u7 h7 => ?_)
  refine j_top (y := nI 0) (h7.1.trans h8b) ?_
  refine j_iload X 1 dL_law_225 rfl ?_
  refine j_icmp_eq X (tgt := 232) dL_law_227 (by decide) (fun _ => ?_) (fun c9 => absurd rfl c9)
  refine j_iload X 1 dL_law_232 rfl ?_
  refine j_nif_ne X 0 rfl (by omega) (tgt := 249) dL_law_234 (by decide) (fun c9 => absurd rfl c9) (fun _ => ?_)
  refine j_aload_n X 3 dL_law_237 rfl rfl ?_
  refine j_iconst (v := nI 0) X (by decide) dL_law_238 ?_
  refine j_lald X 0 3 rfl rfl 0 rfl (by decide) (by decide) dL_law_239 ?_
  refine j_iload X 0 dL_law_240 rfl ?_
  refine j_i2l X dL_law_242 ?_
  refine j_lcmp X dL_law_243 ?_
  refine j_if_eq X (tgt := 249) dL_law_244 (by decide) (fun _ => ?_) (fun c9 => absurd (by rw [h9b]; exact cmp_self _) c9)
  refine j_goto X (tgt := 1581) dL_law_249 (by decide) ?_
  refine j_lo [2, 6] (lo' := [(4, .int (nI 0)), (0, .ref K.1)]) rfl ?_
  exact law_fin X hZ hL (Nat.le_of_ble_eq_true rfl) (Nat.le_of_ble_eq_true rfl)
theorem hL_trim : yL_trim.cls ≠ "java/lang/invoke/MethodHandle" ∧ yL_trim.cls ≠ "java/lang/invoke/VarHandle" ∧ (parseMethodDescriptor yL_trim.desc).map (fun d => d.parameters.length) = some 3 := by decide +kernel
theorem hm_trim : yX7_trim.cls = RX7 ∧ yX7_trim.cls ≠ "java/lang/invoke/MethodHandle" ∧ yX7_trim.cls ≠ "java/lang/invoke/VarHandle" ∧ (parseMethodDescriptor yX7_trim.desc).map (fun d => d.parameters.length) = some 1 := by decide +kernel
set_option maxRecDepth 100000 in
set_option maxHeartbeats 4000000 in
theorem lc_trim_t (X : j_X p s m #[Value.ref K.1] meth c code 9 RL wsL_law ret G (j_ty cI cZ cT cB)) (hZ : j_Z K (va_A ([] : va_W) s.heap.size) s s.heap) (hL : K.2.1 = 6) (k : Nat) (hk1 : 1 ≤ k) (hk3 : k ≤ 3) (V : Int32) (hW : jI l G K (j_ty cI cZ cT cB) yL_trim wsL_trim { frames := 7, cells := 1, slots := 6, locals := 103 } ([(ho, .inl (cB, 1, .inr (.inl (fun _ => 0))))] ++ z_w cI cZ cT o z_S0) [.ref o, .int (K.2.2 1), .ref ho] 1 6 (fun r (u : (Nat → Int64) × zS) => r = nI k) (fun u => [(ho, .inl (cB, 1, .inr (.inl u.1)))] ++ z_w cI cZ cT o u.2)) (hM : jI l G K (j_ty cI cZ cT cB) yX7_trim wsX7_trim { frames := 1, cells := 0, slots := 0, locals := 22 } (m_w cI cZ ad m_Z0) [.ref (ad 0), .int (K.2.2 1)] 0 0 (fun r (u : mS) => r = V ∧ u 0 0 = nI k) (fun u => m_w cI cZ ad u)) : j_V p l e room_1 s m #[Value.ref K.1] below meth c (lw_Z below #[Value.ref K.1] s) G 9 (va_A ([] : va_W) s.heap.size) 200 20000 (([(ho, .inl (cB, 1, .inr (.inl (fun _ => 0))))] ++ z_w cI cZ cT o z_S0) ++ m_w cI cZ ad m_Z0) 252 [(4, .int (nI 0)), (3, .ref ho), (2, .ref (ad 0)), (1, .ref o), (0, .ref K.1)] [] := by
  have hA := hA_law (s := s)
  refine j_aload_n X 3 dL_law_252 rfl rfl ?_
  refine law_arg X hZ hL 4 0 1 rfl rfl (by decide) (by decide) dL_law_253 dL_law_254 dL_law_256 dL_law_257 dL_law_258 ?_
  refine j_aload_n X 1 dL_law_259 rfl rfl ?_
  refine p_callWI (p := p) (l := l) (e := e) (below := below) (Q := lw_Z below #[Value.ref K.1] s) (R := room_1) (k9 := 200) (q9 := 20000) (pc := 260) (lo := [(4, .int (nI 0)), (3, .ref ho), (2, .ref (ad 0)), (1, .ref o), (0, .ref K.1)]) X hA hZ (rest := []) ([(ho, .inl (cB, 1, .inr (.inl (fun _ => 0))))] ++ z_w cI cZ cT o z_S0) (m_w cI cZ ad m_Z0) (fun u : (Nat → Int64) × zS => ([(ho, .inl (cB, 1, .inr (.inl u.1)))] ++ z_w cI cZ cT o u.2) ++ m_w cI cZ ad m_Z0) (List.Perm.refl _) (fun _ => List.perm_append_comm) [.ref o, .int (K.2.2 1), .ref ho] hW 3 rfl gL_law_L_trim rfl ⟨rfl, rfl⟩ hL_trim ⟨Nat.le_of_ble_eq_true rfl, Nat.le_of_ble_eq_true rfl⟩ rfl (Nat.le_of_ble_eq_true rfl) ⟨by show 200 + 1 ≤ 600002; omega, by show 20000 + 6 ≤ 7302232; omega⟩ dL_law_260 (fun r9 u9 h9 => ?_)
  replace h9 := h9.symm
  subst h9
  refine j_istore (lo' := [(5, .int (nI k)), (4, .int (nI 0)), (3, .ref ho), (2, .ref (ad 0)), (1, .ref o), (0, .ref K.1)]) X dL_law_263 (by decide) rfl ?_
  refine j_aload_n X 3 dL_law_265 rfl rfl ?_
  refine law_arg X hZ hL 5 1 1 rfl rfl (by decide) (by decide) dL_law_266 dL_law_267 dL_law_269 dL_law_270 dL_law_271 ?_
  refine p_callVI (p := p) (l := l) (e := e) (below := below) (Q := lw_Z below #[Value.ref K.1] s) (R := room_1) (k9 := 200 + 1) (q9 := 20000 + 6) (pc := 272) (lo := [(5, .int (nI k)), (4, .int (nI 0)), (3, .ref ho), (2, .ref (ad 0)), (1, .ref o), (0, .ref K.1)]) X hA hZ (rest := []) (m_w cI cZ ad m_Z0) ([(ho, .inl (cB, 1, .inr (.inl u9.1)))] ++ z_w cI cZ cT o u9.2) (fun u => ([(ho, .inl (cB, 1, .inr (.inl u9.1)))] ++ z_w cI cZ cT o u9.2) ++ m_w cI cZ ad u) List.perm_append_comm (fun _ => List.Perm.refl _) [.int (K.2.2 1)] 0 rfl rfl hM 1 rfl gL_law_X7_trim rfl ⟨rfl, rfl⟩ hm_trim ⟨Nat.le_of_ble_eq_true rfl, Nat.le_of_ble_eq_true rfl⟩ rfl (Nat.le_of_ble_eq_true rfl) ⟨by show 200 + 1 + 0 ≤ 600002; omega, by show 20000 + 6 + 0 ≤ 7302232; omega⟩ dL_law_272 (fun r8 u8 h8 => ?_)
  obtain ⟨h8a, h8b⟩ := h8
  replace h8a := h8a.symm
  subst h8a
  refine j_istore (lo' := [(6, .int V), (5, .int (nI k)), (4, .int (nI 0)), (3, .ref ho), (2, .ref (ad 0)), (1, .ref o), (0, .ref K.1)]) X dL_law_275 (by decide) rfl ?_
  refine j_aload_n X 4 dL_law_277 rfl rfl ?_
  refine p_callVI (p := p) (l := l) (e := e) (below := below) (Q := lw_Z below #[Value.ref K.1] s) (R := room_1) (k9 := 200 + 1 + 0) (q9 := 20000 + 6 + 0) (pc := 278) (lo := [(6, .int V), (5, .int (nI k)), (4, .int (nI 0)), (3, .ref ho), (2, .ref (ad 0)), (1, .ref o), (0, .ref K.1)]) X hA hZ (rest := []) (m_w cI cZ ad u8) ([(ho, .inl (cB, 1, .inr (.inl u9.1)))] ++ z_w cI cZ cT o u9.2) (fun u => ([(ho, .inl (cB, 1, .inr (.inl u9.1)))] ++ z_w cI cZ cT o u9.2) ++ m_w cI cZ ad u) List.perm_append_comm (fun _ => List.Perm.refl _) [] 0 rfl rfl (m_thrown (cI := cI) (cZ := cZ) (cT := cT) (cB := cB) ad u8) 0 rfl gL_law_X7_thrown rfl ⟨rfl, rfl⟩ hm_thrown ⟨Nat.le_of_ble_eq_true rfl, Nat.le_of_ble_eq_true rfl⟩ rfl (Nat.le_of_ble_eq_true rfl) ⟨by show 200 + 1 + 0 + 0 ≤ 600002; omega, by show 20000 + 6 + 0 + 0 ≤ 7302232; omega⟩ dL_law_278 (fun r7 u7 h7 => ?_)
  refine j_top (y := nI k) (h7.1.trans h8b) ?_
  refine j_iload X 1 dL_law_281 rfl ?_
  refine j_icmp_eq X (tgt := 288) dL_law_283 (by decide) (fun _ => ?_) (fun c9 => absurd rfl c9)
  refine j_iload X 1 dL_law_288 rfl ?_
  refine j_nif_ne X k rfl (by omega) (tgt := 305) dL_law_290 (by decide) (fun _ => ?_) (fun c9 => absurd c9 (by omega))
  refine j_goto X (tgt := 1581) dL_law_305 (by decide) ?_
  refine j_lo [2, 6] (lo' := [(4, .int (nI 0)), (0, .ref K.1)]) rfl ?_
  exact law_fin X hZ hL (Nat.le_of_ble_eq_true rfl) (Nat.le_of_ble_eq_true rfl)
set_option maxRecDepth 100000 in
set_option maxHeartbeats 4000000 in
theorem lc_trim_n (X : j_X p s m #[Value.ref K.1] meth c code 9 RL wsL_law ret G (j_ty cI cZ cT cB)) (hZ : j_Z K (va_A ([] : va_W) s.heap.size) s s.heap) (hL : K.2.1 = 6) (V : Int32) (hW : jI l G K (j_ty cI cZ cT cB) yL_trim wsL_trim { frames := 1, cells := 0, slots := 0, locals := 21 } ([(ho, .inl (cB, 1, .inr (.inl (fun _ => 0))))] ++ z_w cI cZ cT o z_S0) [.ref o, .int (K.2.2 1), .ref ho] 0 0 (fun r (u : (Nat → Int64) × zS) => r = nI 0 ∧ u.1 0 = V.toInt64) (fun u => [(ho, .inl (cB, 1, .inr (.inl u.1)))] ++ z_w cI cZ cT o u.2)) (hM : jI l G K (j_ty cI cZ cT cB) yX7_trim wsX7_trim { frames := 1, cells := 0, slots := 0, locals := 22 } (m_w cI cZ ad m_Z0) [.ref (ad 0), .int (K.2.2 1)] 0 0 (fun r (u : mS) => r = V ∧ u 0 0 = nI 0) (fun u => m_w cI cZ ad u)) : j_V p l e room_1 s m #[Value.ref K.1] below meth c (lw_Z below #[Value.ref K.1] s) G 9 (va_A ([] : va_W) s.heap.size) 200 20000 (([(ho, .inl (cB, 1, .inr (.inl (fun _ => 0))))] ++ z_w cI cZ cT o z_S0) ++ m_w cI cZ ad m_Z0) 252 [(4, .int (nI 0)), (3, .ref ho), (2, .ref (ad 0)), (1, .ref o), (0, .ref K.1)] [] := by
  have hA := hA_law (s := s)
  refine j_aload_n X 3 dL_law_252 rfl rfl ?_
  refine law_arg X hZ hL 4 0 1 rfl rfl (by decide) (by decide) dL_law_253 dL_law_254 dL_law_256 dL_law_257 dL_law_258 ?_
  refine j_aload_n X 1 dL_law_259 rfl rfl ?_
  refine p_callWI (p := p) (l := l) (e := e) (below := below) (Q := lw_Z below #[Value.ref K.1] s) (R := room_1) (k9 := 200) (q9 := 20000) (pc := 260) (lo := [(4, .int (nI 0)), (3, .ref ho), (2, .ref (ad 0)), (1, .ref o), (0, .ref K.1)]) X hA hZ (rest := []) ([(ho, .inl (cB, 1, .inr (.inl (fun _ => 0))))] ++ z_w cI cZ cT o z_S0) (m_w cI cZ ad m_Z0) (fun u : (Nat → Int64) × zS => ([(ho, .inl (cB, 1, .inr (.inl u.1)))] ++ z_w cI cZ cT o u.2) ++ m_w cI cZ ad m_Z0) (List.Perm.refl _) (fun _ => List.perm_append_comm) [.ref o, .int (K.2.2 1), .ref ho] hW 3 rfl gL_law_L_trim rfl ⟨rfl, rfl⟩ hL_trim ⟨Nat.le_of_ble_eq_true rfl, Nat.le_of_ble_eq_true rfl⟩ rfl (Nat.le_of_ble_eq_true rfl) ⟨by show 200 + 0 ≤ 600002; omega, by show 20000 + 0 ≤ 7302232; omega⟩ dL_law_260 (fun r9 u9 h9 => ?_)
  obtain ⟨h9a, h9b⟩ := h9
  replace h9a := h9a.symm
  subst h9a
  refine j_istore (lo' := [(5, .int (nI 0)), (4, .int (nI 0)), (3, .ref ho), (2, .ref (ad 0)), (1, .ref o), (0, .ref K.1)]) X dL_law_263 (by decide) rfl ?_
  refine j_aload_n X 3 dL_law_265 rfl rfl ?_
  refine law_arg X hZ hL 5 1 1 rfl rfl (by decide) (by decide) dL_law_266 dL_law_267 dL_law_269 dL_law_270 dL_law_271 ?_
  refine p_callVI (p := p) (l := l) (e := e) (below := below) (Q := lw_Z below #[Value.ref K.1] s) (R := room_1) (k9 := 200 + 0) (q9 := 20000 + 0) (pc := 272) (lo := [(5, .int (nI 0)), (4, .int (nI 0)), (3, .ref ho), (2, .ref (ad 0)), (1, .ref o), (0, .ref K.1)]) X hA hZ (rest := []) (m_w cI cZ ad m_Z0) ([(ho, .inl (cB, 1, .inr (.inl u9.1)))] ++ z_w cI cZ cT o u9.2) (fun u => ([(ho, .inl (cB, 1, .inr (.inl u9.1)))] ++ z_w cI cZ cT o u9.2) ++ m_w cI cZ ad u) List.perm_append_comm (fun _ => List.Perm.refl _) [.int (K.2.2 1)] 0 rfl rfl hM 1 rfl gL_law_X7_trim rfl ⟨rfl, rfl⟩ hm_trim ⟨Nat.le_of_ble_eq_true rfl, Nat.le_of_ble_eq_true rfl⟩ rfl (Nat.le_of_ble_eq_true rfl) ⟨by show 200 + 0 + 0 ≤ 600002; omega, by show 20000 + 0 + 0 ≤ 7302232; omega⟩ dL_law_272 (fun r8 u8 h8 => ?_)
  obtain ⟨h8a, h8b⟩ := h8
  replace h8a := h8a.symm
  subst h8a
  refine j_istore (lo' := [(6, .int V), (5, .int (nI 0)), (4, .int (nI 0)), (3, .ref ho), (2, .ref (ad 0)), (1, .ref o), (0, .ref K.1)]) X dL_law_275 (by decide) rfl ?_
  refine j_aload_n X 4 dL_law_277 rfl rfl ?_
  refine p_callVI (p := p) (l := l) (e := e) (below := below) (Q := lw_Z below #[Value.ref K.1] s) (R := room_1) (k9 := 200 + 0 + 0) (q9 := 20000 + 0 + 0) (pc := 278) (lo := [(6, .int V), (5, .int (nI 0)), (4, .int (nI 0)), (3, .ref ho), (2, .ref (ad 0)), (1, .ref o), (0, .ref K.1)]) X hA hZ (rest := []) (m_w cI cZ ad u8) ([(ho, .inl (cB, 1, .inr (.inl u9.1)))] ++ z_w cI cZ cT o u9.2) (fun u => ([(ho, .inl (cB, 1, .inr (.inl u9.1)))] ++ z_w cI cZ cT o u9.2) ++ m_w cI cZ ad u) List.perm_append_comm (fun _ => List.Perm.refl _) [] 0 rfl rfl (m_thrown (cI := cI) (cZ := cZ) (cT := cT) (cB := cB) ad u8) 0 rfl gL_law_X7_thrown rfl ⟨rfl, rfl⟩ hm_thrown ⟨Nat.le_of_ble_eq_true rfl, Nat.le_of_ble_eq_true rfl⟩ rfl (Nat.le_of_ble_eq_true rfl) ⟨by show 200 + 0 + 0 + 0 ≤ 600002; omega, by show 20000 + 0 + 0 + 0 ≤ 7302232; omega⟩ dL_law_278 (fun r7 u7 h7 => ?_)
  refine j_top (y := nI 0) (h7.1.trans h8b) ?_
  refine j_iload X 1 dL_law_281 rfl ?_
  refine j_icmp_eq X (tgt := 288) dL_law_283 (by decide) (fun _ => ?_) (fun c9 => absurd rfl c9)
  refine j_iload X 1 dL_law_288 rfl ?_
  refine j_nif_ne X 0 rfl (by omega) (tgt := 305) dL_law_290 (by decide) (fun c9 => absurd rfl c9) (fun _ => ?_)
  refine j_aload_n X 3 dL_law_293 rfl rfl ?_
  refine j_iconst (v := nI 0) X (by decide) dL_law_294 ?_
  refine j_lald X 0 3 rfl rfl 0 rfl (by decide) (by decide) dL_law_295 ?_
  refine j_iload X 0 dL_law_296 rfl ?_
  refine j_i2l X dL_law_298 ?_
  refine j_lcmp X dL_law_299 ?_
  refine j_if_eq X (tgt := 305) dL_law_300 (by decide) (fun _ => ?_) (fun c9 => absurd (by rw [h9b]; exact cmp_self _) c9)
  refine j_goto X (tgt := 1581) dL_law_305 (by decide) ?_
  refine j_lo [2, 6] (lo' := [(4, .int (nI 0)), (0, .ref K.1)]) rfl ?_
  exact law_fin X hZ hL (Nat.le_of_ble_eq_true rfl) (Nat.le_of_ble_eq_true rfl)
theorem hL_openAt : yL_openAt.cls ≠ "java/lang/invoke/MethodHandle" ∧ yL_openAt.cls ≠ "java/lang/invoke/VarHandle" ∧ (parseMethodDescriptor yL_openAt.desc).map (fun d => d.parameters.length) = some 4 := by decide +kernel
theorem hm_openAt : yX7_openAt.cls = RX7 ∧ yX7_openAt.cls ≠ "java/lang/invoke/MethodHandle" ∧ yX7_openAt.cls ≠ "java/lang/invoke/VarHandle" ∧ (parseMethodDescriptor yX7_openAt.desc).map (fun d => d.parameters.length) = some 2 := by decide +kernel
set_option maxRecDepth 100000 in
set_option maxHeartbeats 4000000 in
theorem lc_openAt_t (X : j_X p s m #[Value.ref K.1] meth c code 9 RL wsL_law ret G (j_ty cI cZ cT cB)) (hZ : j_Z K (va_A ([] : va_W) s.heap.size) s s.heap) (hL : K.2.1 = 6) (k : Nat) (hk1 : 1 ≤ k) (hk3 : k ≤ 3) (V : Int32) (hW : jI l G K (j_ty cI cZ cT cB) yL_openAt wsL_openAt { frames := 7, cells := 1, slots := 6, locals := 106 } ([(ho, .inl (cB, 1, .inr (.inl (fun _ => 0))))] ++ z_w cI cZ cT o z_S0) [.ref o, .int (K.2.2 1), .int (K.2.2 2), .ref ho] 1 6 (fun r (u : (Nat → Int64) × zS) => r = nI k) (fun u => [(ho, .inl (cB, 1, .inr (.inl u.1)))] ++ z_w cI cZ cT o u.2)) (hM : jI l G K (j_ty cI cZ cT cB) yX7_openAt wsX7_openAt { frames := 2, cells := 0, slots := 0, locals := 43 } (m_w cI cZ ad m_Z0) [.ref (ad 0), .int (K.2.2 1), .int (K.2.2 2)] 0 0 (fun r (u : mS) => r = V ∧ u 0 0 = nI k) (fun u => m_w cI cZ ad u)) : j_V p l e room_1 s m #[Value.ref K.1] below meth c (lw_Z below #[Value.ref K.1] s) G 9 (va_A ([] : va_W) s.heap.size) 200 20000 (([(ho, .inl (cB, 1, .inr (.inl (fun _ => 0))))] ++ z_w cI cZ cT o z_S0) ++ m_w cI cZ ad m_Z0) 321 [(4, .int (nI 0)), (3, .ref ho), (2, .ref (ad 0)), (1, .ref o), (0, .ref K.1)] [] := by
  have hA := hA_law (s := s)
  refine j_aload_n X 3 dL_law_321 rfl rfl ?_
  refine law_arg X hZ hL 4 0 1 rfl rfl (by decide) (by decide) dL_law_322 dL_law_323 dL_law_325 dL_law_326 dL_law_327 ?_
  refine law_arg X hZ hL 4 0 2 rfl rfl (by decide) (by decide) dL_law_328 dL_law_329 dL_law_331 dL_law_332 dL_law_333 ?_
  refine j_aload_n X 1 dL_law_334 rfl rfl ?_
  refine p_callWI (p := p) (l := l) (e := e) (below := below) (Q := lw_Z below #[Value.ref K.1] s) (R := room_1) (k9 := 200) (q9 := 20000) (pc := 335) (lo := [(4, .int (nI 0)), (3, .ref ho), (2, .ref (ad 0)), (1, .ref o), (0, .ref K.1)]) X hA hZ (rest := []) ([(ho, .inl (cB, 1, .inr (.inl (fun _ => 0))))] ++ z_w cI cZ cT o z_S0) (m_w cI cZ ad m_Z0) (fun u : (Nat → Int64) × zS => ([(ho, .inl (cB, 1, .inr (.inl u.1)))] ++ z_w cI cZ cT o u.2) ++ m_w cI cZ ad m_Z0) (List.Perm.refl _) (fun _ => List.perm_append_comm) [.ref o, .int (K.2.2 1), .int (K.2.2 2), .ref ho] hW 4 rfl gL_law_L_openAt rfl ⟨rfl, rfl⟩ hL_openAt ⟨Nat.le_of_ble_eq_true rfl, Nat.le_of_ble_eq_true rfl⟩ rfl (Nat.le_of_ble_eq_true rfl) ⟨by show 200 + 1 ≤ 600002; omega, by show 20000 + 6 ≤ 7302232; omega⟩ dL_law_335 (fun r9 u9 h9 => ?_)
  replace h9 := h9.symm
  subst h9
  refine j_istore (lo' := [(5, .int (nI k)), (4, .int (nI 0)), (3, .ref ho), (2, .ref (ad 0)), (1, .ref o), (0, .ref K.1)]) X dL_law_338 (by decide) rfl ?_
  refine j_aload_n X 3 dL_law_340 rfl rfl ?_
  refine law_arg X hZ hL 5 1 1 rfl rfl (by decide) (by decide) dL_law_341 dL_law_342 dL_law_344 dL_law_345 dL_law_346 ?_
  refine law_arg X hZ hL 5 1 2 rfl rfl (by decide) (by decide) dL_law_347 dL_law_348 dL_law_350 dL_law_351 dL_law_352 ?_
  refine p_callVI (p := p) (l := l) (e := e) (below := below) (Q := lw_Z below #[Value.ref K.1] s) (R := room_1) (k9 := 200 + 1) (q9 := 20000 + 6) (pc := 353) (lo := [(5, .int (nI k)), (4, .int (nI 0)), (3, .ref ho), (2, .ref (ad 0)), (1, .ref o), (0, .ref K.1)]) X hA hZ (rest := []) (m_w cI cZ ad m_Z0) ([(ho, .inl (cB, 1, .inr (.inl u9.1)))] ++ z_w cI cZ cT o u9.2) (fun u => ([(ho, .inl (cB, 1, .inr (.inl u9.1)))] ++ z_w cI cZ cT o u9.2) ++ m_w cI cZ ad u) List.perm_append_comm (fun _ => List.Perm.refl _) [.int (K.2.2 1), .int (K.2.2 2)] 0 rfl rfl hM 2 rfl gL_law_X7_openAt rfl ⟨rfl, rfl⟩ hm_openAt ⟨Nat.le_of_ble_eq_true rfl, Nat.le_of_ble_eq_true rfl⟩ rfl (Nat.le_of_ble_eq_true rfl) ⟨by show 200 + 1 + 0 ≤ 600002; omega, by show 20000 + 6 + 0 ≤ 7302232; omega⟩ dL_law_353 (fun r8 u8 h8 => ?_)
  obtain ⟨h8a, h8b⟩ := h8
  replace h8a := h8a.symm
  subst h8a
  refine j_istore (lo' := [(6, .int V), (5, .int (nI k)), (4, .int (nI 0)), (3, .ref ho), (2, .ref (ad 0)), (1, .ref o), (0, .ref K.1)]) X dL_law_356 (by decide) rfl ?_
  refine j_aload_n X 4 dL_law_358 rfl rfl ?_
  refine p_callVI (p := p) (l := l) (e := e) (below := below) (Q := lw_Z below #[Value.ref K.1] s) (R := room_1) (k9 := 200 + 1 + 0) (q9 := 20000 + 6 + 0) (pc := 359) (lo := [(6, .int V), (5, .int (nI k)), (4, .int (nI 0)), (3, .ref ho), (2, .ref (ad 0)), (1, .ref o), (0, .ref K.1)]) X hA hZ (rest := []) (m_w cI cZ ad u8) ([(ho, .inl (cB, 1, .inr (.inl u9.1)))] ++ z_w cI cZ cT o u9.2) (fun u => ([(ho, .inl (cB, 1, .inr (.inl u9.1)))] ++ z_w cI cZ cT o u9.2) ++ m_w cI cZ ad u) List.perm_append_comm (fun _ => List.Perm.refl _) [] 0 rfl rfl (m_thrown (cI := cI) (cZ := cZ) (cT := cT) (cB := cB) ad u8) 0 rfl gL_law_X7_thrown rfl ⟨rfl, rfl⟩ hm_thrown ⟨Nat.le_of_ble_eq_true rfl, Nat.le_of_ble_eq_true rfl⟩ rfl (Nat.le_of_ble_eq_true rfl) ⟨by show 200 + 1 + 0 + 0 ≤ 600002; omega, by show 20000 + 6 + 0 + 0 ≤ 7302232; omega⟩ dL_law_359 (fun r7 u7 h7 => ?_)
  refine j_top (y := nI k) (h7.1.trans h8b) ?_
  refine j_iload X 1 dL_law_362 rfl ?_
  refine j_icmp_eq X (tgt := 369) dL_law_364 (by decide) (fun _ => ?_) (fun c9 => absurd rfl c9)
  refine j_iload X 1 dL_law_369 rfl ?_
  refine j_nif_ne X k rfl (by omega) (tgt := 386) dL_law_371 (by decide) (fun _ => ?_) (fun c9 => absurd c9 (by omega))
  refine j_goto X (tgt := 1581) dL_law_386 (by decide) ?_
  refine j_lo [2, 6] (lo' := [(4, .int (nI 0)), (0, .ref K.1)]) rfl ?_
  exact law_fin X hZ hL (Nat.le_of_ble_eq_true rfl) (Nat.le_of_ble_eq_true rfl)
set_option maxRecDepth 100000 in
set_option maxHeartbeats 4000000 in
theorem lc_openAt_n (X : j_X p s m #[Value.ref K.1] meth c code 9 RL wsL_law ret G (j_ty cI cZ cT cB)) (hZ : j_Z K (va_A ([] : va_W) s.heap.size) s s.heap) (hL : K.2.1 = 6) (V : Int32) (hW : jI l G K (j_ty cI cZ cT cB) yL_openAt wsL_openAt { frames := 3, cells := 0, slots := 0, locals := 66 } ([(ho, .inl (cB, 1, .inr (.inl (fun _ => 0))))] ++ z_w cI cZ cT o z_S0) [.ref o, .int (K.2.2 1), .int (K.2.2 2), .ref ho] 0 0 (fun r (u : (Nat → Int64) × zS) => r = nI 0 ∧ u.1 0 = V.toInt64) (fun u => [(ho, .inl (cB, 1, .inr (.inl u.1)))] ++ z_w cI cZ cT o u.2)) (hM : jI l G K (j_ty cI cZ cT cB) yX7_openAt wsX7_openAt { frames := 2, cells := 0, slots := 0, locals := 43 } (m_w cI cZ ad m_Z0) [.ref (ad 0), .int (K.2.2 1), .int (K.2.2 2)] 0 0 (fun r (u : mS) => r = V ∧ u 0 0 = nI 0) (fun u => m_w cI cZ ad u)) : j_V p l e room_1 s m #[Value.ref K.1] below meth c (lw_Z below #[Value.ref K.1] s) G 9 (va_A ([] : va_W) s.heap.size) 200 20000 (([(ho, .inl (cB, 1, .inr (.inl (fun _ => 0))))] ++ z_w cI cZ cT o z_S0) ++ m_w cI cZ ad m_Z0) 321 [(4, .int (nI 0)), (3, .ref ho), (2, .ref (ad 0)), (1, .ref o), (0, .ref K.1)] [] := by
  have hA := hA_law (s := s)
  refine j_aload_n X 3 dL_law_321 rfl rfl ?_
  refine law_arg X hZ hL 4 0 1 rfl rfl (by decide) (by decide) dL_law_322 dL_law_323 dL_law_325 dL_law_326 dL_law_327 ?_
  refine law_arg X hZ hL 4 0 2 rfl rfl (by decide) (by decide) dL_law_328 dL_law_329 dL_law_331 dL_law_332 dL_law_333 ?_
  refine j_aload_n X 1 dL_law_334 rfl rfl ?_
  refine p_callWI (p := p) (l := l) (e := e) (below := below) (Q := lw_Z below #[Value.ref K.1] s) (R := room_1) (k9 := 200) (q9 := 20000) (pc := 335) (lo := [(4, .int (nI 0)), (3, .ref ho), (2, .ref (ad 0)), (1, .ref o), (0, .ref K.1)]) X hA hZ (rest := []) ([(ho, .inl (cB, 1, .inr (.inl (fun _ => 0))))] ++ z_w cI cZ cT o z_S0) (m_w cI cZ ad m_Z0) (fun u : (Nat → Int64) × zS => ([(ho, .inl (cB, 1, .inr (.inl u.1)))] ++ z_w cI cZ cT o u.2) ++ m_w cI cZ ad m_Z0) (List.Perm.refl _) (fun _ => List.perm_append_comm) [.ref o, .int (K.2.2 1), .int (K.2.2 2), .ref ho] hW 4 rfl gL_law_L_openAt rfl ⟨rfl, rfl⟩ hL_openAt ⟨Nat.le_of_ble_eq_true rfl, Nat.le_of_ble_eq_true rfl⟩ rfl (Nat.le_of_ble_eq_true rfl) ⟨by show 200 + 0 ≤ 600002; omega, by show 20000 + 0 ≤ 7302232; omega⟩ dL_law_335 (fun r9 u9 h9 => ?_)
  obtain ⟨h9a, h9b⟩ := h9
  replace h9a := h9a.symm
  subst h9a
  refine j_istore (lo' := [(5, .int (nI 0)), (4, .int (nI 0)), (3, .ref ho), (2, .ref (ad 0)), (1, .ref o), (0, .ref K.1)]) X dL_law_338 (by decide) rfl ?_
  refine j_aload_n X 3 dL_law_340 rfl rfl ?_
  refine law_arg X hZ hL 5 1 1 rfl rfl (by decide) (by decide) dL_law_341 dL_law_342 dL_law_344 dL_law_345 dL_law_346 ?_
  refine law_arg X hZ hL 5 1 2 rfl rfl (by decide) (by decide) dL_law_347 dL_law_348 dL_law_350 dL_law_351 dL_law_352 ?_
  refine p_callVI (p := p) (l := l) (e := e) (below := below) (Q := lw_Z below #[Value.ref K.1] s) (R := room_1) (k9 := 200 + 0) (q9 := 20000 + 0) (pc := 353) (lo := [(5, .int (nI 0)), (4, .int (nI 0)), (3, .ref ho), (2, .ref (ad 0)), (1, .ref o), (0, .ref K.1)]) X hA hZ (rest := []) (m_w cI cZ ad m_Z0) ([(ho, .inl (cB, 1, .inr (.inl u9.1)))] ++ z_w cI cZ cT o u9.2) (fun u => ([(ho, .inl (cB, 1, .inr (.inl u9.1)))] ++ z_w cI cZ cT o u9.2) ++ m_w cI cZ ad u) List.perm_append_comm (fun _ => List.Perm.refl _) [.int (K.2.2 1), .int (K.2.2 2)] 0 rfl rfl hM 2 rfl gL_law_X7_openAt rfl ⟨rfl, rfl⟩ hm_openAt ⟨Nat.le_of_ble_eq_true rfl, Nat.le_of_ble_eq_true rfl⟩ rfl (Nat.le_of_ble_eq_true rfl) ⟨by show 200 + 0 + 0 ≤ 600002; omega, by show 20000 + 0 + 0 ≤ 7302232; omega⟩ dL_law_353 (fun r8 u8 h8 => ?_)
  obtain ⟨h8a, h8b⟩ := h8
  replace h8a := h8a.symm
  subst h8a
  refine j_istore (lo' := [(6, .int V), (5, .int (nI 0)), (4, .int (nI 0)), (3, .ref ho), (2, .ref (ad 0)), (1, .ref o), (0, .ref K.1)]) X dL_law_356 (by decide) rfl ?_
  refine j_aload_n X 4 dL_law_358 rfl rfl ?_
  refine p_callVI (p := p) (l := l) (e := e) (below := below) (Q := lw_Z below #[Value.ref K.1] s) (R := room_1) (k9 := 200 + 0 + 0) (q9 := 20000 + 0 + 0) (pc := 359) (lo := [(6, .int V), (5, .int (nI 0)), (4, .int (nI 0)), (3, .ref ho), (2, .ref (ad 0)), (1, .ref o), (0, .ref K.1)]) X hA hZ (rest := []) (m_w cI cZ ad u8) ([(ho, .inl (cB, 1, .inr (.inl u9.1)))] ++ z_w cI cZ cT o u9.2) (fun u => ([(ho, .inl (cB, 1, .inr (.inl u9.1)))] ++ z_w cI cZ cT o u9.2) ++ m_w cI cZ ad u) List.perm_append_comm (fun _ => List.Perm.refl _) [] 0 rfl rfl (m_thrown (cI := cI) (cZ := cZ) (cT := cT) (cB := cB) ad u8) 0 rfl gL_law_X7_thrown rfl ⟨rfl, rfl⟩ hm_thrown ⟨Nat.le_of_ble_eq_true rfl, Nat.le_of_ble_eq_true rfl⟩ rfl (Nat.le_of_ble_eq_true rfl) ⟨by show 200 + 0 + 0 + 0 ≤ 600002; omega, by show 20000 + 0 + 0 + 0 ≤ 7302232; omega⟩ dL_law_359 (fun r7 u7 h7 => ?_)
  refine j_top (y := nI 0) (h7.1.trans h8b) ?_
  refine j_iload X 1 dL_law_362 rfl ?_
  refine j_icmp_eq X (tgt := 369) dL_law_364 (by decide) (fun _ => ?_) (fun c9 => absurd rfl c9)
  refine j_iload X 1 dL_law_369 rfl ?_
  refine j_nif_ne X 0 rfl (by omega) (tgt := 386) dL_law_371 (by decide) (fun c9 => absurd rfl c9) (fun _ => ?_)
  refine j_aload_n X 3 dL_law_374 rfl rfl ?_
  refine j_iconst (v := nI 0) X (by decide) dL_law_375 ?_
  refine j_lald X 0 3 rfl rfl 0 rfl (by decide) (by decide) dL_law_376 ?_
  refine j_iload X 0 dL_law_377 rfl ?_
  refine j_i2l X dL_law_379 ?_
  refine j_lcmp X dL_law_380 ?_
  refine j_if_eq X (tgt := 386) dL_law_381 (by decide) (fun _ => ?_) (fun c9 => absurd (by rw [h9b]; exact cmp_self _) c9)
  refine j_goto X (tgt := 1581) dL_law_386 (by decide) ?_
  refine j_lo [2, 6] (lo' := [(4, .int (nI 0)), (0, .ref K.1)]) rfl ?_
  exact law_fin X hZ hL (Nat.le_of_ble_eq_true rfl) (Nat.le_of_ble_eq_true rfl)
theorem hL_cell : yL_cell.cls ≠ "java/lang/invoke/MethodHandle" ∧ yL_cell.cls ≠ "java/lang/invoke/VarHandle" ∧ (parseMethodDescriptor yL_cell.desc).map (fun d => d.parameters.length) = some 5 := by decide +kernel
theorem hm_cell : yX7_cell.cls = RX7 ∧ yX7_cell.cls ≠ "java/lang/invoke/MethodHandle" ∧ yX7_cell.cls ≠ "java/lang/invoke/VarHandle" ∧ (parseMethodDescriptor yX7_cell.desc).map (fun d => d.parameters.length) = some 3 := by decide +kernel
set_option maxRecDepth 100000 in
set_option maxHeartbeats 4000000 in
theorem lc_cell_t (X : j_X p s m #[Value.ref K.1] meth c code 9 RL wsL_law ret G (j_ty cI cZ cT cB)) (hZ : j_Z K (va_A ([] : va_W) s.heap.size) s s.heap) (hL : K.2.1 = 6) (k : Nat) (hk1 : 1 ≤ k) (hk3 : k ≤ 3) (V : Int32) (hW : jI l G K (j_ty cI cZ cT cB) yL_cell wsL_cell { frames := 7, cells := 1, slots := 6, locals := 105 } ([(ho, .inl (cB, 1, .inr (.inl (fun _ => 0))))] ++ z_w cI cZ cT o z_S0) [.ref o, .int (K.2.2 1), .int (K.2.2 2), .int (K.2.2 3), .ref ho] 1 6 (fun r (u : (Nat → Int64) × zS) => r = nI k) (fun u => [(ho, .inl (cB, 1, .inr (.inl u.1)))] ++ z_w cI cZ cT o u.2)) (hM : jI l G K (j_ty cI cZ cT cB) yX7_cell wsX7_cell { frames := 2, cells := 0, slots := 0, locals := 43 } (m_w cI cZ ad m_Z0) [.ref (ad 0), .int (K.2.2 1), .int (K.2.2 2), .int (K.2.2 3)] 0 0 (fun r (u : mS) => r = V ∧ u 0 0 = nI k) (fun u => m_w cI cZ ad u)) : j_V p l e room_1 s m #[Value.ref K.1] below meth c (lw_Z below #[Value.ref K.1] s) G 9 (va_A ([] : va_W) s.heap.size) 200 20000 (([(ho, .inl (cB, 1, .inr (.inl (fun _ => 0))))] ++ z_w cI cZ cT o z_S0) ++ m_w cI cZ ad m_Z0) 389 [(4, .int (nI 0)), (3, .ref ho), (2, .ref (ad 0)), (1, .ref o), (0, .ref K.1)] [] := by
  have hA := hA_law (s := s)
  refine j_aload_n X 3 dL_law_389 rfl rfl ?_
  refine law_arg X hZ hL 4 0 1 rfl rfl (by decide) (by decide) dL_law_390 dL_law_391 dL_law_393 dL_law_394 dL_law_395 ?_
  refine law_arg X hZ hL 4 0 2 rfl rfl (by decide) (by decide) dL_law_396 dL_law_397 dL_law_399 dL_law_400 dL_law_401 ?_
  refine law_arg X hZ hL 4 0 3 rfl rfl (by decide) (by decide) dL_law_402 dL_law_403 dL_law_405 dL_law_406 dL_law_407 ?_
  refine j_aload_n X 1 dL_law_408 rfl rfl ?_
  refine p_callWI (p := p) (l := l) (e := e) (below := below) (Q := lw_Z below #[Value.ref K.1] s) (R := room_1) (k9 := 200) (q9 := 20000) (pc := 409) (lo := [(4, .int (nI 0)), (3, .ref ho), (2, .ref (ad 0)), (1, .ref o), (0, .ref K.1)]) X hA hZ (rest := []) ([(ho, .inl (cB, 1, .inr (.inl (fun _ => 0))))] ++ z_w cI cZ cT o z_S0) (m_w cI cZ ad m_Z0) (fun u : (Nat → Int64) × zS => ([(ho, .inl (cB, 1, .inr (.inl u.1)))] ++ z_w cI cZ cT o u.2) ++ m_w cI cZ ad m_Z0) (List.Perm.refl _) (fun _ => List.perm_append_comm) [.ref o, .int (K.2.2 1), .int (K.2.2 2), .int (K.2.2 3), .ref ho] hW 5 rfl gL_law_L_cell rfl ⟨rfl, rfl⟩ hL_cell ⟨Nat.le_of_ble_eq_true rfl, Nat.le_of_ble_eq_true rfl⟩ rfl (Nat.le_of_ble_eq_true rfl) ⟨by show 200 + 1 ≤ 600002; omega, by show 20000 + 6 ≤ 7302232; omega⟩ dL_law_409 (fun r9 u9 h9 => ?_)
  replace h9 := h9.symm
  subst h9
  refine j_istore (lo' := [(5, .int (nI k)), (4, .int (nI 0)), (3, .ref ho), (2, .ref (ad 0)), (1, .ref o), (0, .ref K.1)]) X dL_law_412 (by decide) rfl ?_
  refine j_aload_n X 3 dL_law_414 rfl rfl ?_
  refine law_arg X hZ hL 5 1 1 rfl rfl (by decide) (by decide) dL_law_415 dL_law_416 dL_law_418 dL_law_419 dL_law_420 ?_
  refine law_arg X hZ hL 5 1 2 rfl rfl (by decide) (by decide) dL_law_421 dL_law_422 dL_law_424 dL_law_425 dL_law_426 ?_
  refine law_arg X hZ hL 5 1 3 rfl rfl (by decide) (by decide) dL_law_427 dL_law_428 dL_law_430 dL_law_431 dL_law_432 ?_
  refine p_callVI (p := p) (l := l) (e := e) (below := below) (Q := lw_Z below #[Value.ref K.1] s) (R := room_1) (k9 := 200 + 1) (q9 := 20000 + 6) (pc := 433) (lo := [(5, .int (nI k)), (4, .int (nI 0)), (3, .ref ho), (2, .ref (ad 0)), (1, .ref o), (0, .ref K.1)]) X hA hZ (rest := []) (m_w cI cZ ad m_Z0) ([(ho, .inl (cB, 1, .inr (.inl u9.1)))] ++ z_w cI cZ cT o u9.2) (fun u => ([(ho, .inl (cB, 1, .inr (.inl u9.1)))] ++ z_w cI cZ cT o u9.2) ++ m_w cI cZ ad u) List.perm_append_comm (fun _ => List.Perm.refl _) [.int (K.2.2 1), .int (K.2.2 2), .int (K.2.2 3)] 0 rfl rfl hM 3 rfl gL_law_X7_cell rfl ⟨rfl, rfl⟩ hm_cell ⟨Nat.le_of_ble_eq_true rfl, Nat.le_of_ble_eq_true rfl⟩ rfl (Nat.le_of_ble_eq_true rfl) ⟨by show 200 + 1 + 0 ≤ 600002; omega, by show 20000 + 6 + 0 ≤ 7302232; omega⟩ dL_law_433 (fun r8 u8 h8 => ?_)
  obtain ⟨h8a, h8b⟩ := h8
  replace h8a := h8a.symm
  subst h8a
  refine j_istore (lo' := [(6, .int V), (5, .int (nI k)), (4, .int (nI 0)), (3, .ref ho), (2, .ref (ad 0)), (1, .ref o), (0, .ref K.1)]) X dL_law_436 (by decide) rfl ?_
  refine j_aload_n X 4 dL_law_438 rfl rfl ?_
  refine p_callVI (p := p) (l := l) (e := e) (below := below) (Q := lw_Z below #[Value.ref K.1] s) (R := room_1) (k9 := 200 + 1 + 0) (q9 := 20000 + 6 + 0) (pc := 439) (lo := [(6, .int V), (5, .int (nI k)), (4, .int (nI 0)), (3, .ref ho), (2, .ref (ad 0)), (1, .ref o), (0, .ref K.1)]) X hA hZ (rest := []) (m_w cI cZ ad u8) ([(ho, .inl (cB, 1, .inr (.inl u9.1)))] ++ z_w cI cZ cT o u9.2) (fun u => ([(ho, .inl (cB, 1, .inr (.inl u9.1)))] ++ z_w cI cZ cT o u9.2) ++ m_w cI cZ ad u) List.perm_append_comm (fun _ => List.Perm.refl _) [] 0 rfl rfl (m_thrown (cI := cI) (cZ := cZ) (cT := cT) (cB := cB) ad u8) 0 rfl gL_law_X7_thrown rfl ⟨rfl, rfl⟩ hm_thrown ⟨Nat.le_of_ble_eq_true rfl, Nat.le_of_ble_eq_true rfl⟩ rfl (Nat.le_of_ble_eq_true rfl) ⟨by show 200 + 1 + 0 + 0 ≤ 600002; omega, by show 20000 + 6 + 0 + 0 ≤ 7302232; omega⟩ dL_law_439 (fun r7 u7 h7 => ?_)
  refine j_top (y := nI k) (h7.1.trans h8b) ?_
  refine j_iload X 1 dL_law_442 rfl ?_
  refine j_icmp_eq X (tgt := 449) dL_law_444 (by decide) (fun _ => ?_) (fun c9 => absurd rfl c9)
  refine j_iload X 1 dL_law_449 rfl ?_
  refine j_nif_ne X k rfl (by omega) (tgt := 466) dL_law_451 (by decide) (fun _ => ?_) (fun c9 => absurd c9 (by omega))
  refine j_goto X (tgt := 1581) dL_law_466 (by decide) ?_
  refine j_lo [2, 6] (lo' := [(4, .int (nI 0)), (0, .ref K.1)]) rfl ?_
  exact law_fin X hZ hL (Nat.le_of_ble_eq_true rfl) (Nat.le_of_ble_eq_true rfl)
set_option maxRecDepth 100000 in
set_option maxHeartbeats 4000000 in
theorem lc_cell_n (X : j_X p s m #[Value.ref K.1] meth c code 9 RL wsL_law ret G (j_ty cI cZ cT cB)) (hZ : j_Z K (va_A ([] : va_W) s.heap.size) s s.heap) (hL : K.2.1 = 6) (V : Int32) (hW : jI l G K (j_ty cI cZ cT cB) yL_cell wsL_cell { frames := 2, cells := 0, slots := 0, locals := 45 } ([(ho, .inl (cB, 1, .inr (.inl (fun _ => 0))))] ++ z_w cI cZ cT o z_S0) [.ref o, .int (K.2.2 1), .int (K.2.2 2), .int (K.2.2 3), .ref ho] 0 0 (fun r (u : (Nat → Int64) × zS) => r = nI 0 ∧ u.1 0 = V.toInt64) (fun u => [(ho, .inl (cB, 1, .inr (.inl u.1)))] ++ z_w cI cZ cT o u.2)) (hM : jI l G K (j_ty cI cZ cT cB) yX7_cell wsX7_cell { frames := 2, cells := 0, slots := 0, locals := 43 } (m_w cI cZ ad m_Z0) [.ref (ad 0), .int (K.2.2 1), .int (K.2.2 2), .int (K.2.2 3)] 0 0 (fun r (u : mS) => r = V ∧ u 0 0 = nI 0) (fun u => m_w cI cZ ad u)) : j_V p l e room_1 s m #[Value.ref K.1] below meth c (lw_Z below #[Value.ref K.1] s) G 9 (va_A ([] : va_W) s.heap.size) 200 20000 (([(ho, .inl (cB, 1, .inr (.inl (fun _ => 0))))] ++ z_w cI cZ cT o z_S0) ++ m_w cI cZ ad m_Z0) 389 [(4, .int (nI 0)), (3, .ref ho), (2, .ref (ad 0)), (1, .ref o), (0, .ref K.1)] [] := by
  have hA := hA_law (s := s)
  refine j_aload_n X 3 dL_law_389 rfl rfl ?_
  refine law_arg X hZ hL 4 0 1 rfl rfl (by decide) (by decide) dL_law_390 dL_law_391 dL_law_393 dL_law_394 dL_law_395 ?_
  refine law_arg X hZ hL 4 0 2 rfl rfl (by decide) (by decide) dL_law_396 dL_law_397 dL_law_399 dL_law_400 dL_law_401 ?_
  refine law_arg X hZ hL 4 0 3 rfl rfl (by decide) (by decide) dL_law_402 dL_law_403 dL_law_405 dL_law_406 dL_law_407 ?_
  refine j_aload_n X 1 dL_law_408 rfl rfl ?_
  refine p_callWI (p := p) (l := l) (e := e) (below := below) (Q := lw_Z below #[Value.ref K.1] s) (R := room_1) (k9 := 200) (q9 := 20000) (pc := 409) (lo := [(4, .int (nI 0)), (3, .ref ho), (2, .ref (ad 0)), (1, .ref o), (0, .ref K.1)]) X hA hZ (rest := []) ([(ho, .inl (cB, 1, .inr (.inl (fun _ => 0))))] ++ z_w cI cZ cT o z_S0) (m_w cI cZ ad m_Z0) (fun u : (Nat → Int64) × zS => ([(ho, .inl (cB, 1, .inr (.inl u.1)))] ++ z_w cI cZ cT o u.2) ++ m_w cI cZ ad m_Z0) (List.Perm.refl _) (fun _ => List.perm_append_comm) [.ref o, .int (K.2.2 1), .int (K.2.2 2), .int (K.2.2 3), .ref ho] hW 5 rfl gL_law_L_cell rfl ⟨rfl, rfl⟩ hL_cell ⟨Nat.le_of_ble_eq_true rfl, Nat.le_of_ble_eq_true rfl⟩ rfl (Nat.le_of_ble_eq_true rfl) ⟨by show 200 + 0 ≤ 600002; omega, by show 20000 + 0 ≤ 7302232; omega⟩ dL_law_409 (fun r9 u9 h9 => ?_)
  obtain ⟨h9a, h9b⟩ := h9
  replace h9a := h9a.symm
  subst h9a
  refine j_istore (lo' := [(5, .int (nI 0)), (4, .int (nI 0)), (3, .ref ho), (2, .ref (ad 0)), (1, .ref o), (0, .ref K.1)]) X dL_law_412 (by decide) rfl ?_
  refine j_aload_n X 3 dL_law_414 rfl rfl ?_
  refine law_arg X hZ hL 5 1 1 rfl rfl (by decide) (by decide) dL_law_415 dL_law_416 dL_law_418 dL_law_419 dL_law_420 ?_
  refine law_arg X hZ hL 5 1 2 rfl rfl (by decide) (by decide) dL_law_421 dL_law_422 dL_law_424 dL_law_425 dL_law_426 ?_
  refine law_arg X hZ hL 5 1 3 rfl rfl (by decide) (by decide) dL_law_427 dL_law_428 dL_law_430 dL_law_431 dL_law_432 ?_
  refine p_callVI (p := p) (l := l) (e := e) (below := below) (Q := lw_Z below #[Value.ref K.1] s) (R := room_1) (k9 := 200 + 0) (q9 := 20000 + 0) (pc := 433) (lo := [(5, .int (nI 0)), (4, .int (nI 0)), (3, .ref ho), (2, .ref (ad 0)), (1, .ref o), (0, .ref K.1)]) X hA hZ (rest := []) (m_w cI cZ ad m_Z0) ([(ho, .inl (cB, 1, .inr (.inl u9.1)))] ++ z_w cI cZ cT o u9.2) (fun u => ([(ho, .inl (cB, 1, .inr (.inl u9.1)))] ++ z_w cI cZ cT o u9.2) ++ m_w cI cZ ad u) List.perm_append_comm (fun _ => List.Perm.refl _) [.int (K.2.2 1), .int (K.2.2 2), .int (K.2.2 3)] 0 rfl rfl hM 3 rfl gL_law_X7_cell rfl ⟨rfl, rfl⟩ hm_cell ⟨Nat.le_of_ble_eq_true rfl, Nat.le_of_ble_eq_true rfl⟩ rfl (Nat.le_of_ble_eq_true rfl) ⟨by show 200 + 0 + 0 ≤ 600002; omega, by show 20000 + 0 + 0 ≤ 7302232; omega⟩ dL_law_433 (fun r8 u8 h8 => ?_)
  obtain ⟨h8a, h8b⟩ := h8
  replace h8a := h8a.symm
  subst h8a
  refine j_istore (lo' := [(6, .int V), (5, .int (nI 0)), (4, .int (nI 0)), (3, .ref ho), (2, .ref (ad 0)), (1, .ref o), (0, .ref K.1)]) X dL_law_436 (by decide) rfl ?_
  refine j_aload_n X 4 dL_law_438 rfl rfl ?_
  refine p_callVI (p := p) (l := l) (e := e) (below := below) (Q := lw_Z below #[Value.ref K.1] s) (R := room_1) (k9 := 200 + 0 + 0) (q9 := 20000 + 0 + 0) (pc := 439) (lo := [(6, .int V), (5, .int (nI 0)), (4, .int (nI 0)), (3, .ref ho), (2, .ref (ad 0)), (1, .ref o), (0, .ref K.1)]) X hA hZ (rest := []) (m_w cI cZ ad u8) ([(ho, .inl (cB, 1, .inr (.inl u9.1)))] ++ z_w cI cZ cT o u9.2) (fun u => ([(ho, .inl (cB, 1, .inr (.inl u9.1)))] ++ z_w cI cZ cT o u9.2) ++ m_w cI cZ ad u) List.perm_append_comm (fun _ => List.Perm.refl _) [] 0 rfl rfl (m_thrown (cI := cI) (cZ := cZ) (cT := cT) (cB := cB) ad u8) 0 rfl gL_law_X7_thrown rfl ⟨rfl, rfl⟩ hm_thrown ⟨Nat.le_of_ble_eq_true rfl, Nat.le_of_ble_eq_true rfl⟩ rfl (Nat.le_of_ble_eq_true rfl) ⟨by show 200 + 0 + 0 + 0 ≤ 600002; omega, by show 20000 + 0 + 0 + 0 ≤ 7302232; omega⟩ dL_law_439 (fun r7 u7 h7 => ?_)
  refine j_top (y := nI 0) (h7.1.trans h8b) ?_
  refine j_iload X 1 dL_law_442 rfl ?_
  refine j_icmp_eq X (tgt := 449) dL_law_444 (by decide) (fun _ => ?_) (fun c9 => absurd rfl c9)
  refine j_iload X 1 dL_law_449 rfl ?_
  refine j_nif_ne X 0 rfl (by omega) (tgt := 466) dL_law_451 (by decide) (fun c9 => absurd rfl c9) (fun _ => ?_)
  refine j_aload_n X 3 dL_law_454 rfl rfl ?_
  refine j_iconst (v := nI 0) X (by decide) dL_law_455 ?_
  refine j_lald X 0 3 rfl rfl 0 rfl (by decide) (by decide) dL_law_456 ?_
  refine j_iload X 0 dL_law_457 rfl ?_
  refine j_i2l X dL_law_459 ?_
  refine j_lcmp X dL_law_460 ?_
  refine j_if_eq X (tgt := 466) dL_law_461 (by decide) (fun _ => ?_) (fun c9 => absurd (by rw [h9b]; exact cmp_self _) c9)
  refine j_goto X (tgt := 1581) dL_law_466 (by decide) ?_
  refine j_lo [2, 6] (lo' := [(4, .int (nI 0)), (0, .ref K.1)]) rfl ?_
  exact law_fin X hZ hL (Nat.le_of_ble_eq_true rfl) (Nat.le_of_ble_eq_true rfl)
theorem hL_come : yL_come.cls ≠ "java/lang/invoke/MethodHandle" ∧ yL_come.cls ≠ "java/lang/invoke/VarHandle" ∧ (parseMethodDescriptor yL_come.desc).map (fun d => d.parameters.length) = some 7 := by decide +kernel
theorem hm_come : yX7_come.cls = RX7 ∧ yX7_come.cls ≠ "java/lang/invoke/MethodHandle" ∧ yX7_come.cls ≠ "java/lang/invoke/VarHandle" ∧ (parseMethodDescriptor yX7_come.desc).map (fun d => d.parameters.length) = some 5 := by decide +kernel
set_option maxRecDepth 100000 in
set_option maxHeartbeats 4000000 in
theorem lc_come_t (X : j_X p s m #[Value.ref K.1] meth c code 9 RL wsL_law ret G (j_ty cI cZ cT cB)) (hZ : j_Z K (va_A ([] : va_W) s.heap.size) s s.heap) (hL : K.2.1 = 6) (k : Nat) (hk1 : 1 ≤ k) (hk3 : k ≤ 3) (V : Int32) (hW : jI l G K (j_ty cI cZ cT cB) yL_come wsL_come { frames := 7, cells := 1, slots := 6, locals := 109 } ([(ho, .inl (cB, 1, .inr (.inl (fun _ => 0))))] ++ z_w cI cZ cT o z_S0) [.ref o, .int (K.2.2 1), .int (K.2.2 2), .int (K.2.2 3), .int (K.2.2 4), .int (K.2.2 5), .ref ho] 1 6 (fun r (u : (Nat → Int64) × zS) => r = nI k) (fun u => [(ho, .inl (cB, 1, .inr (.inl u.1)))] ++ z_w cI cZ cT o u.2)) (hM : jI l G K (j_ty cI cZ cT cB) yX7_come wsX7_come { frames := 2, cells := 0, slots := 0, locals := 60 } (m_w cI cZ ad m_Z0) [.ref (ad 0), .int (K.2.2 1), .int (K.2.2 2), .int (K.2.2 3), .int (K.2.2 4), .int (K.2.2 5)] 0 0 (fun r (u : mS) => r = V ∧ u 0 0 = nI k) (fun u => m_w cI cZ ad u)) : j_V p l e room_1 s m #[Value.ref K.1] below meth c (lw_Z below #[Value.ref K.1] s) G 9 (va_A ([] : va_W) s.heap.size) 200 20000 (([(ho, .inl (cB, 1, .inr (.inl (fun _ => 0))))] ++ z_w cI cZ cT o z_S0) ++ m_w cI cZ ad m_Z0) 469 [(4, .int (nI 0)), (3, .ref ho), (2, .ref (ad 0)), (1, .ref o), (0, .ref K.1)] [] := by
  have hA := hA_law (s := s)
  refine j_aload_n X 3 dL_law_469 rfl rfl ?_
  refine law_arg X hZ hL 4 0 1 rfl rfl (by decide) (by decide) dL_law_470 dL_law_471 dL_law_473 dL_law_474 dL_law_475 ?_
  refine law_arg X hZ hL 4 0 2 rfl rfl (by decide) (by decide) dL_law_476 dL_law_477 dL_law_479 dL_law_480 dL_law_481 ?_
  refine law_arg X hZ hL 4 0 3 rfl rfl (by decide) (by decide) dL_law_482 dL_law_483 dL_law_485 dL_law_486 dL_law_487 ?_
  refine law_arg X hZ hL 4 0 4 rfl rfl (by decide) (by decide) dL_law_488 dL_law_489 dL_law_491 dL_law_492 dL_law_493 ?_
  refine law_arg X hZ hL 4 0 5 rfl rfl (by decide) (by decide) dL_law_494 dL_law_495 dL_law_497 dL_law_498 dL_law_499 ?_
  refine j_aload_n X 1 dL_law_500 rfl rfl ?_
  refine p_callWI (p := p) (l := l) (e := e) (below := below) (Q := lw_Z below #[Value.ref K.1] s) (R := room_1) (k9 := 200) (q9 := 20000) (pc := 501) (lo := [(4, .int (nI 0)), (3, .ref ho), (2, .ref (ad 0)), (1, .ref o), (0, .ref K.1)]) X hA hZ (rest := []) ([(ho, .inl (cB, 1, .inr (.inl (fun _ => 0))))] ++ z_w cI cZ cT o z_S0) (m_w cI cZ ad m_Z0) (fun u : (Nat → Int64) × zS => ([(ho, .inl (cB, 1, .inr (.inl u.1)))] ++ z_w cI cZ cT o u.2) ++ m_w cI cZ ad m_Z0) (List.Perm.refl _) (fun _ => List.perm_append_comm) [.ref o, .int (K.2.2 1), .int (K.2.2 2), .int (K.2.2 3), .int (K.2.2 4), .int (K.2.2 5), .ref ho] hW 7 rfl gL_law_L_come rfl ⟨rfl, rfl⟩ hL_come ⟨Nat.le_of_ble_eq_true rfl, Nat.le_of_ble_eq_true rfl⟩ rfl (Nat.le_of_ble_eq_true rfl) ⟨by show 200 + 1 ≤ 600002; omega, by show 20000 + 6 ≤ 7302232; omega⟩ dL_law_501 (fun r9 u9 h9 => ?_)
  replace h9 := h9.symm
  subst h9
  refine j_istore (lo' := [(5, .int (nI k)), (4, .int (nI 0)), (3, .ref ho), (2, .ref (ad 0)), (1, .ref o), (0, .ref K.1)]) X dL_law_504 (by decide) rfl ?_
  refine j_aload_n X 3 dL_law_506 rfl rfl ?_
  refine law_arg X hZ hL 5 1 1 rfl rfl (by decide) (by decide) dL_law_507 dL_law_508 dL_law_510 dL_law_511 dL_law_512 ?_
  refine law_arg X hZ hL 5 1 2 rfl rfl (by decide) (by decide) dL_law_513 dL_law_514 dL_law_516 dL_law_517 dL_law_518 ?_
  refine law_arg X hZ hL 5 1 3 rfl rfl (by decide) (by decide) dL_law_519 dL_law_520 dL_law_522 dL_law_523 dL_law_524 ?_
  refine law_arg X hZ hL 5 1 4 rfl rfl (by decide) (by decide) dL_law_525 dL_law_526 dL_law_528 dL_law_529 dL_law_530 ?_
  refine law_arg X hZ hL 5 1 5 rfl rfl (by decide) (by decide) dL_law_531 dL_law_532 dL_law_534 dL_law_535 dL_law_536 ?_
  refine p_callVI (p := p) (l := l) (e := e) (below := below) (Q := lw_Z below #[Value.ref K.1] s) (R := room_1) (k9 := 200 + 1) (q9 := 20000 + 6) (pc := 537) (lo := [(5, .int (nI k)), (4, .int (nI 0)), (3, .ref ho), (2, .ref (ad 0)), (1, .ref o), (0, .ref K.1)]) X hA hZ (rest := []) (m_w cI cZ ad m_Z0) ([(ho, .inl (cB, 1, .inr (.inl u9.1)))] ++ z_w cI cZ cT o u9.2) (fun u => ([(ho, .inl (cB, 1, .inr (.inl u9.1)))] ++ z_w cI cZ cT o u9.2) ++ m_w cI cZ ad u) List.perm_append_comm (fun _ => List.Perm.refl _) [.int (K.2.2 1), .int (K.2.2 2), .int (K.2.2 3), .int (K.2.2 4), .int (K.2.2 5)] 0 rfl rfl hM 5 rfl gL_law_X7_come rfl ⟨rfl, rfl⟩ hm_come ⟨Nat.le_of_ble_eq_true rfl, Nat.le_of_ble_eq_true rfl⟩ rfl (Nat.le_of_ble_eq_true rfl) ⟨by show 200 + 1 + 0 ≤ 600002; omega, by show 20000 + 6 + 0 ≤ 7302232; omega⟩ dL_law_537 (fun r8 u8 h8 => ?_)
  obtain ⟨h8a, h8b⟩ := h8
  replace h8a := h8a.symm
  subst h8a
  refine j_istore (lo' := [(6, .int V), (5, .int (nI k)), (4, .int (nI 0)), (3, .ref ho), (2, .ref (ad 0)), (1, .ref o), (0, .ref K.1)]) X dL_law_540 (by decide) rfl ?_
  refine j_aload_n X 4 dL_law_542 rfl rfl ?_
  refine p_callVI (p := p) (l := l) (e := e) (below := below) (Q := lw_Z below #[Value.ref K.1] s) (R := room_1) (k9 := 200 + 1 + 0) (q9 := 20000 + 6 + 0) (pc := 543) (lo := [(6, .int V), (5, .int (nI k)), (4, .int (nI 0)), (3, .ref ho), (2, .ref (ad 0)), (1, .ref o), (0, .ref K.1)]) X hA hZ (rest := []) (m_w cI cZ ad u8) ([(ho, .inl (cB, 1, .inr (.inl u9.1)))] ++ z_w cI cZ cT o u9.2) (fun u => ([(ho, .inl (cB, 1, .inr (.inl u9.1)))] ++ z_w cI cZ cT o u9.2) ++ m_w cI cZ ad u) List.perm_append_comm (fun _ => List.Perm.refl _) [] 0 rfl rfl (m_thrown (cI := cI) (cZ := cZ) (cT := cT) (cB := cB) ad u8) 0 rfl gL_law_X7_thrown rfl ⟨rfl, rfl⟩ hm_thrown ⟨Nat.le_of_ble_eq_true rfl, Nat.le_of_ble_eq_true rfl⟩ rfl (Nat.le_of_ble_eq_true rfl) ⟨by show 200 + 1 + 0 + 0 ≤ 600002; omega, by show 20000 + 6 + 0 + 0 ≤ 7302232; omega⟩ dL_law_543 (fun r7 u7 h7 => ?_)
  refine j_top (y := nI k) (h7.1.trans h8b) ?_
  refine j_iload X 1 dL_law_546 rfl ?_
  refine j_icmp_eq X (tgt := 553) dL_law_548 (by decide) (fun _ => ?_) (fun c9 => absurd rfl c9)
  refine j_iload X 1 dL_law_553 rfl ?_
  refine j_nif_ne X k rfl (by omega) (tgt := 570) dL_law_555 (by decide) (fun _ => ?_) (fun c9 => absurd c9 (by omega))
  refine j_goto X (tgt := 1581) dL_law_570 (by decide) ?_
  refine j_lo [2, 6] (lo' := [(4, .int (nI 0)), (0, .ref K.1)]) rfl ?_
  exact law_fin X hZ hL (Nat.le_of_ble_eq_true rfl) (Nat.le_of_ble_eq_true rfl)
theorem hL_order : yL_order.cls ≠ "java/lang/invoke/MethodHandle" ∧ yL_order.cls ≠ "java/lang/invoke/VarHandle" ∧ (parseMethodDescriptor yL_order.desc).map (fun d => d.parameters.length) = some 6 := by decide +kernel
theorem hm_order : yX7_order.cls = RX7 ∧ yX7_order.cls ≠ "java/lang/invoke/MethodHandle" ∧ yX7_order.cls ≠ "java/lang/invoke/VarHandle" ∧ (parseMethodDescriptor yX7_order.desc).map (fun d => d.parameters.length) = some 4 := by decide +kernel
set_option maxRecDepth 100000 in
set_option maxHeartbeats 4000000 in
theorem lc_order_t (X : j_X p s m #[Value.ref K.1] meth c code 9 RL wsL_law ret G (j_ty cI cZ cT cB)) (hZ : j_Z K (va_A ([] : va_W) s.heap.size) s s.heap) (hL : K.2.1 = 6) (k : Nat) (hk1 : 1 ≤ k) (hk3 : k ≤ 3) (V : Int32) (hW : jI l G K (j_ty cI cZ cT cB) yL_order wsL_order { frames := 7, cells := 1, slots := 6, locals := 107 } ([(ho, .inl (cB, 1, .inr (.inl (fun _ => 0))))] ++ z_w cI cZ cT o z_S0) [.ref o, .int (K.2.2 1), .int (K.2.2 2), .int (K.2.2 3), .int (K.2.2 4), .ref ho] 1 6 (fun r (u : (Nat → Int64) × zS) => r = nI k) (fun u => [(ho, .inl (cB, 1, .inr (.inl u.1)))] ++ z_w cI cZ cT o u.2)) (hM : jI l G K (j_ty cI cZ cT cB) yX7_order wsX7_order { frames := 2, cells := 0, slots := 0, locals := 43 } (m_w cI cZ ad m_Z0) [.ref (ad 0), .int (K.2.2 1), .int (K.2.2 2), .int (K.2.2 3), .int (K.2.2 4)] 0 0 (fun r (u : mS) => r = V ∧ u 0 0 = nI k) (fun u => m_w cI cZ ad u)) : j_V p l e room_1 s m #[Value.ref K.1] below meth c (lw_Z below #[Value.ref K.1] s) G 9 (va_A ([] : va_W) s.heap.size) 200 20000 (([(ho, .inl (cB, 1, .inr (.inl (fun _ => 0))))] ++ z_w cI cZ cT o z_S0) ++ m_w cI cZ ad m_Z0) 573 [(4, .int (nI 0)), (3, .ref ho), (2, .ref (ad 0)), (1, .ref o), (0, .ref K.1)] [] := by
  have hA := hA_law (s := s)
  refine j_aload_n X 3 dL_law_573 rfl rfl ?_
  refine law_arg X hZ hL 4 0 1 rfl rfl (by decide) (by decide) dL_law_574 dL_law_575 dL_law_577 dL_law_578 dL_law_579 ?_
  refine law_arg X hZ hL 4 0 2 rfl rfl (by decide) (by decide) dL_law_580 dL_law_581 dL_law_583 dL_law_584 dL_law_585 ?_
  refine law_arg X hZ hL 4 0 3 rfl rfl (by decide) (by decide) dL_law_586 dL_law_587 dL_law_589 dL_law_590 dL_law_591 ?_
  refine law_arg X hZ hL 4 0 4 rfl rfl (by decide) (by decide) dL_law_592 dL_law_593 dL_law_595 dL_law_596 dL_law_597 ?_
  refine j_aload_n X 1 dL_law_598 rfl rfl ?_
  refine p_callWI (p := p) (l := l) (e := e) (below := below) (Q := lw_Z below #[Value.ref K.1] s) (R := room_1) (k9 := 200) (q9 := 20000) (pc := 599) (lo := [(4, .int (nI 0)), (3, .ref ho), (2, .ref (ad 0)), (1, .ref o), (0, .ref K.1)]) X hA hZ (rest := []) ([(ho, .inl (cB, 1, .inr (.inl (fun _ => 0))))] ++ z_w cI cZ cT o z_S0) (m_w cI cZ ad m_Z0) (fun u : (Nat → Int64) × zS => ([(ho, .inl (cB, 1, .inr (.inl u.1)))] ++ z_w cI cZ cT o u.2) ++ m_w cI cZ ad m_Z0) (List.Perm.refl _) (fun _ => List.perm_append_comm) [.ref o, .int (K.2.2 1), .int (K.2.2 2), .int (K.2.2 3), .int (K.2.2 4), .ref ho] hW 6 rfl gL_law_L_order rfl ⟨rfl, rfl⟩ hL_order ⟨Nat.le_of_ble_eq_true rfl, Nat.le_of_ble_eq_true rfl⟩ rfl (Nat.le_of_ble_eq_true rfl) ⟨by show 200 + 1 ≤ 600002; omega, by show 20000 + 6 ≤ 7302232; omega⟩ dL_law_599 (fun r9 u9 h9 => ?_)
  replace h9 := h9.symm
  subst h9
  refine j_istore (lo' := [(5, .int (nI k)), (4, .int (nI 0)), (3, .ref ho), (2, .ref (ad 0)), (1, .ref o), (0, .ref K.1)]) X dL_law_602 (by decide) rfl ?_
  refine j_aload_n X 3 dL_law_604 rfl rfl ?_
  refine law_arg X hZ hL 5 1 1 rfl rfl (by decide) (by decide) dL_law_605 dL_law_606 dL_law_608 dL_law_609 dL_law_610 ?_
  refine law_arg X hZ hL 5 1 2 rfl rfl (by decide) (by decide) dL_law_611 dL_law_612 dL_law_614 dL_law_615 dL_law_616 ?_
  refine law_arg X hZ hL 5 1 3 rfl rfl (by decide) (by decide) dL_law_617 dL_law_618 dL_law_620 dL_law_621 dL_law_622 ?_
  refine law_arg X hZ hL 5 1 4 rfl rfl (by decide) (by decide) dL_law_623 dL_law_624 dL_law_626 dL_law_627 dL_law_628 ?_
  refine p_callVI (p := p) (l := l) (e := e) (below := below) (Q := lw_Z below #[Value.ref K.1] s) (R := room_1) (k9 := 200 + 1) (q9 := 20000 + 6) (pc := 629) (lo := [(5, .int (nI k)), (4, .int (nI 0)), (3, .ref ho), (2, .ref (ad 0)), (1, .ref o), (0, .ref K.1)]) X hA hZ (rest := []) (m_w cI cZ ad m_Z0) ([(ho, .inl (cB, 1, .inr (.inl u9.1)))] ++ z_w cI cZ cT o u9.2) (fun u => ([(ho, .inl (cB, 1, .inr (.inl u9.1)))] ++ z_w cI cZ cT o u9.2) ++ m_w cI cZ ad u) List.perm_append_comm (fun _ => List.Perm.refl _) [.int (K.2.2 1), .int (K.2.2 2), .int (K.2.2 3), .int (K.2.2 4)] 0 rfl rfl hM 4 rfl gL_law_X7_order rfl ⟨rfl, rfl⟩ hm_order ⟨Nat.le_of_ble_eq_true rfl, Nat.le_of_ble_eq_true rfl⟩ rfl (Nat.le_of_ble_eq_true rfl) ⟨by show 200 + 1 + 0 ≤ 600002; omega, by show 20000 + 6 + 0 ≤ 7302232; omega⟩ dL_law_629 (fun r8 u8 h8 => ?_)
  obtain ⟨h8a, h8b⟩ := h8
  replace h8a := h8a.symm
  subst h8a
  refine j_istore (lo' := [(6, .int V), (5, .int (nI k)), (4, .int (nI 0)), (3, .ref ho), (2, .ref (ad 0)), (1, .ref o), (0, .ref K.1)]) X dL_law_632 (by decide) rfl ?_
  refine j_aload_n X 4 dL_law_634 rfl rfl ?_
  refine p_callVI (p := p) (l := l) (e := e) (below := below) (Q := lw_Z below #[Value.ref K.1] s) (R := room_1) (k9 := 200 + 1 + 0) (q9 := 20000 + 6 + 0) (pc := 635) (lo := [(6, .int V), (5, .int (nI k)), (4, .int (nI 0)), (3, .ref ho), (2, .ref (ad 0)), (1, .ref o), (0, .ref K.1)]) X hA hZ (rest := []) (m_w cI cZ ad u8) ([(ho, .inl (cB, 1, .inr (.inl u9.1)))] ++ z_w cI cZ cT o u9.2) (fun u => ([(ho, .inl (cB, 1, .inr (.inl u9.1)))] ++ z_w cI cZ cT o u9.2) ++ m_w cI cZ ad u) List.perm_append_comm (fun _ => List.Perm.refl _) [] 0 rfl rfl (m_thrown (cI := cI) (cZ := cZ) (cT := cT) (cB := cB) ad u8) 0 rfl gL_law_X7_thrown rfl ⟨rfl, rfl⟩ hm_thrown ⟨Nat.le_of_ble_eq_true rfl, Nat.le_of_ble_eq_true rfl⟩ rfl (Nat.le_of_ble_eq_true rfl) ⟨by show 200 + 1 + 0 + 0 ≤ 600002; omega, by show 20000 + 6 + 0 + 0 ≤ 7302232; omega⟩ dL_law_635 (fun r7 u7 h7 => ?_)
  refine j_top (y := nI k) (h7.1.trans h8b) ?_
  refine j_iload X 1 dL_law_638 rfl ?_
  refine j_icmp_eq X (tgt := 645) dL_law_640 (by decide) (fun _ => ?_) (fun c9 => absurd rfl c9)
  refine j_iload X 1 dL_law_645 rfl ?_
  refine j_nif_ne X k rfl (by omega) (tgt := 662) dL_law_647 (by decide) (fun _ => ?_) (fun c9 => absurd c9 (by omega))
  refine j_goto X (tgt := 1581) dL_law_662 (by decide) ?_
  refine j_lo [2, 6] (lo' := [(4, .int (nI 0)), (0, .ref K.1)]) rfl ?_
  exact law_fin X hZ hL (Nat.le_of_ble_eq_true rfl) (Nat.le_of_ble_eq_true rfl)
theorem hL_clear : yL_clear.cls ≠ "java/lang/invoke/MethodHandle" ∧ yL_clear.cls ≠ "java/lang/invoke/VarHandle" ∧ (parseMethodDescriptor yL_clear.desc).map (fun d => d.parameters.length) = some 3 := by decide +kernel
theorem hm_clear : yX7_clear.cls = RX7 ∧ yX7_clear.cls ≠ "java/lang/invoke/MethodHandle" ∧ yX7_clear.cls ≠ "java/lang/invoke/VarHandle" ∧ (parseMethodDescriptor yX7_clear.desc).map (fun d => d.parameters.length) = some 1 := by decide +kernel
set_option maxRecDepth 100000 in
set_option maxHeartbeats 4000000 in
theorem lc_clear_t (X : j_X p s m #[Value.ref K.1] meth c code 9 RL wsL_law ret G (j_ty cI cZ cT cB)) (hZ : j_Z K (va_A ([] : va_W) s.heap.size) s s.heap) (hL : K.2.1 = 6) (k : Nat) (hk1 : 1 ≤ k) (hk3 : k ≤ 3) (V : Int32) (hW : jI l G K (j_ty cI cZ cT cB) yL_clear wsL_clear { frames := 7, cells := 1, slots := 6, locals := 104 } ([(ho, .inl (cB, 1, .inr (.inl (fun _ => 0))))] ++ z_w cI cZ cT o z_S0) [.ref o, .int (K.2.2 1), .ref ho] 1 6 (fun r (u : (Nat → Int64) × zS) => r = nI k) (fun u => [(ho, .inl (cB, 1, .inr (.inl u.1)))] ++ z_w cI cZ cT o u.2)) (hM : jI l G K (j_ty cI cZ cT cB) yX7_clear wsX7_clear { frames := 2, cells := 0, slots := 0, locals := 43 } (m_w cI cZ ad m_Z0) [.ref (ad 0), .int (K.2.2 1)] 0 0 (fun r (u : mS) => r = V ∧ u 0 0 = nI k) (fun u => m_w cI cZ ad u)) : j_V p l e room_1 s m #[Value.ref K.1] below meth c (lw_Z below #[Value.ref K.1] s) G 9 (va_A ([] : va_W) s.heap.size) 200 20000 (([(ho, .inl (cB, 1, .inr (.inl (fun _ => 0))))] ++ z_w cI cZ cT o z_S0) ++ m_w cI cZ ad m_Z0) 665 [(4, .int (nI 0)), (3, .ref ho), (2, .ref (ad 0)), (1, .ref o), (0, .ref K.1)] [] := by
  have hA := hA_law (s := s)
  refine j_aload_n X 3 dL_law_665 rfl rfl ?_
  refine law_arg X hZ hL 4 0 1 rfl rfl (by decide) (by decide) dL_law_666 dL_law_667 dL_law_669 dL_law_670 dL_law_671 ?_
  refine j_aload_n X 1 dL_law_672 rfl rfl ?_
  refine p_callWI (p := p) (l := l) (e := e) (below := below) (Q := lw_Z below #[Value.ref K.1] s) (R := room_1) (k9 := 200) (q9 := 20000) (pc := 673) (lo := [(4, .int (nI 0)), (3, .ref ho), (2, .ref (ad 0)), (1, .ref o), (0, .ref K.1)]) X hA hZ (rest := []) ([(ho, .inl (cB, 1, .inr (.inl (fun _ => 0))))] ++ z_w cI cZ cT o z_S0) (m_w cI cZ ad m_Z0) (fun u : (Nat → Int64) × zS => ([(ho, .inl (cB, 1, .inr (.inl u.1)))] ++ z_w cI cZ cT o u.2) ++ m_w cI cZ ad m_Z0) (List.Perm.refl _) (fun _ => List.perm_append_comm) [.ref o, .int (K.2.2 1), .ref ho] hW 3 rfl gL_law_L_clear rfl ⟨rfl, rfl⟩ hL_clear ⟨Nat.le_of_ble_eq_true rfl, Nat.le_of_ble_eq_true rfl⟩ rfl (Nat.le_of_ble_eq_true rfl) ⟨by show 200 + 1 ≤ 600002; omega, by show 20000 + 6 ≤ 7302232; omega⟩ dL_law_673 (fun r9 u9 h9 => ?_)
  replace h9 := h9.symm
  subst h9
  refine j_istore (lo' := [(5, .int (nI k)), (4, .int (nI 0)), (3, .ref ho), (2, .ref (ad 0)), (1, .ref o), (0, .ref K.1)]) X dL_law_676 (by decide) rfl ?_
  refine j_aload_n X 3 dL_law_678 rfl rfl ?_
  refine law_arg X hZ hL 5 1 1 rfl rfl (by decide) (by decide) dL_law_679 dL_law_680 dL_law_682 dL_law_683 dL_law_684 ?_
  refine p_callVI (p := p) (l := l) (e := e) (below := below) (Q := lw_Z below #[Value.ref K.1] s) (R := room_1) (k9 := 200 + 1) (q9 := 20000 + 6) (pc := 685) (lo := [(5, .int (nI k)), (4, .int (nI 0)), (3, .ref ho), (2, .ref (ad 0)), (1, .ref o), (0, .ref K.1)]) X hA hZ (rest := []) (m_w cI cZ ad m_Z0) ([(ho, .inl (cB, 1, .inr (.inl u9.1)))] ++ z_w cI cZ cT o u9.2) (fun u => ([(ho, .inl (cB, 1, .inr (.inl u9.1)))] ++ z_w cI cZ cT o u9.2) ++ m_w cI cZ ad u) List.perm_append_comm (fun _ => List.Perm.refl _) [.int (K.2.2 1)] 0 rfl rfl hM 1 rfl gL_law_X7_clear rfl ⟨rfl, rfl⟩ hm_clear ⟨Nat.le_of_ble_eq_true rfl, Nat.le_of_ble_eq_true rfl⟩ rfl (Nat.le_of_ble_eq_true rfl) ⟨by show 200 + 1 + 0 ≤ 600002; omega, by show 20000 + 6 + 0 ≤ 7302232; omega⟩ dL_law_685 (fun r8 u8 h8 => ?_)
  obtain ⟨h8a, h8b⟩ := h8
  replace h8a := h8a.symm
  subst h8a
  refine j_istore (lo' := [(6, .int V), (5, .int (nI k)), (4, .int (nI 0)), (3, .ref ho), (2, .ref (ad 0)), (1, .ref o), (0, .ref K.1)]) X dL_law_688 (by decide) rfl ?_
  refine j_aload_n X 4 dL_law_690 rfl rfl ?_
  refine p_callVI (p := p) (l := l) (e := e) (below := below) (Q := lw_Z below #[Value.ref K.1] s) (R := room_1) (k9 := 200 + 1 + 0) (q9 := 20000 + 6 + 0) (pc := 691) (lo := [(6, .int V), (5, .int (nI k)), (4, .int (nI 0)), (3, .ref ho), (2, .ref (ad 0)), (1, .ref o), (0, .ref K.1)]) X hA hZ (rest := []) (m_w cI cZ ad u8) ([(ho, .inl (cB, 1, .inr (.inl u9.1)))] ++ z_w cI cZ cT o u9.2) (fun u => ([(ho, .inl (cB, 1, .inr (.inl u9.1)))] ++ z_w cI cZ cT o u9.2) ++ m_w cI cZ ad u) List.perm_append_comm (fun _ => List.Perm.refl _) [] 0 rfl rfl (m_thrown (cI := cI) (cZ := cZ) (cT := cT) (cB := cB) ad u8) 0 rfl gL_law_X7_thrown rfl ⟨rfl, rfl⟩ hm_thrown ⟨Nat.le_of_ble_eq_true rfl, Nat.le_of_ble_eq_true rfl⟩ rfl (Nat.le_of_ble_eq_true rfl) ⟨by show 200 + 1 + 0 + 0 ≤ 600002; omega, by show 20000 + 6 + 0 + 0 ≤ 7302232; omega⟩ dL_law_691 (fun r7 u7 h7 => ?_)
  refine j_top (y := nI k) (h7.1.trans h8b) ?_
  refine j_iload X 1 dL_law_694 rfl ?_
  refine j_icmp_eq X (tgt := 701) dL_law_696 (by decide) (fun _ => ?_) (fun c9 => absurd rfl c9)
  refine j_iload X 1 dL_law_701 rfl ?_
  refine j_nif_ne X k rfl (by omega) (tgt := 718) dL_law_703 (by decide) (fun _ => ?_) (fun c9 => absurd c9 (by omega))
  refine j_goto X (tgt := 1581) dL_law_718 (by decide) ?_
  refine j_lo [2, 6] (lo' := [(4, .int (nI 0)), (0, .ref K.1)]) rfl ?_
  exact law_fin X hZ hL (Nat.le_of_ble_eq_true rfl) (Nat.le_of_ble_eq_true rfl)
theorem hL_team : yL_team.cls ≠ "java/lang/invoke/MethodHandle" ∧ yL_team.cls ≠ "java/lang/invoke/VarHandle" ∧ (parseMethodDescriptor yL_team.desc).map (fun d => d.parameters.length) = some 4 := by decide +kernel
theorem hm_team : yX7_team.cls = RX7 ∧ yX7_team.cls ≠ "java/lang/invoke/MethodHandle" ∧ yX7_team.cls ≠ "java/lang/invoke/VarHandle" ∧ (parseMethodDescriptor yX7_team.desc).map (fun d => d.parameters.length) = some 2 := by decide +kernel
set_option maxRecDepth 100000 in
set_option maxHeartbeats 4000000 in
theorem lc_team_t (X : j_X p s m #[Value.ref K.1] meth c code 9 RL wsL_law ret G (j_ty cI cZ cT cB)) (hZ : j_Z K (va_A ([] : va_W) s.heap.size) s s.heap) (hL : K.2.1 = 6) (k : Nat) (hk1 : 1 ≤ k) (hk3 : k ≤ 3) (V : Int32) (hW : jI l G K (j_ty cI cZ cT cB) yL_team wsL_team { frames := 7, cells := 1, slots := 6, locals := 104 } ([(ho, .inl (cB, 1, .inr (.inl (fun _ => 0))))] ++ z_w cI cZ cT o z_S0) [.ref o, .int (K.2.2 1), .int (K.2.2 2), .ref ho] 1 6 (fun r (u : (Nat → Int64) × zS) => r = nI k) (fun u => [(ho, .inl (cB, 1, .inr (.inl u.1)))] ++ z_w cI cZ cT o u.2)) (hM : jI l G K (j_ty cI cZ cT cB) yX7_team wsX7_team { frames := 2, cells := 0, slots := 0, locals := 47 } (m_w cI cZ ad m_Z0) [.ref (ad 0), .int (K.2.2 1), .int (K.2.2 2)] 0 0 (fun r (u : mS) => r = V ∧ u 0 0 = nI k) (fun u => m_w cI cZ ad u)) : j_V p l e room_1 s m #[Value.ref K.1] below meth c (lw_Z below #[Value.ref K.1] s) G 9 (va_A ([] : va_W) s.heap.size) 200 20000 (([(ho, .inl (cB, 1, .inr (.inl (fun _ => 0))))] ++ z_w cI cZ cT o z_S0) ++ m_w cI cZ ad m_Z0) 721 [(4, .int (nI 0)), (3, .ref ho), (2, .ref (ad 0)), (1, .ref o), (0, .ref K.1)] [] := by
  have hA := hA_law (s := s)
  refine j_aload_n X 3 dL_law_721 rfl rfl ?_
  refine law_arg X hZ hL 4 0 1 rfl rfl (by decide) (by decide) dL_law_722 dL_law_723 dL_law_725 dL_law_726 dL_law_727 ?_
  refine law_arg X hZ hL 4 0 2 rfl rfl (by decide) (by decide) dL_law_728 dL_law_729 dL_law_731 dL_law_732 dL_law_733 ?_
  refine j_aload_n X 1 dL_law_734 rfl rfl ?_
  refine p_callWI (p := p) (l := l) (e := e) (below := below) (Q := lw_Z below #[Value.ref K.1] s) (R := room_1) (k9 := 200) (q9 := 20000) (pc := 735) (lo := [(4, .int (nI 0)), (3, .ref ho), (2, .ref (ad 0)), (1, .ref o), (0, .ref K.1)]) X hA hZ (rest := []) ([(ho, .inl (cB, 1, .inr (.inl (fun _ => 0))))] ++ z_w cI cZ cT o z_S0) (m_w cI cZ ad m_Z0) (fun u : (Nat → Int64) × zS => ([(ho, .inl (cB, 1, .inr (.inl u.1)))] ++ z_w cI cZ cT o u.2) ++ m_w cI cZ ad m_Z0) (List.Perm.refl _) (fun _ => List.perm_append_comm) [.ref o, .int (K.2.2 1), .int (K.2.2 2), .ref ho] hW 4 rfl gL_law_L_team rfl ⟨rfl, rfl⟩ hL_team ⟨Nat.le_of_ble_eq_true rfl, Nat.le_of_ble_eq_true rfl⟩ rfl (Nat.le_of_ble_eq_true rfl) ⟨by show 200 + 1 ≤ 600002; omega, by show 20000 + 6 ≤ 7302232; omega⟩ dL_law_735 (fun r9 u9 h9 => ?_)
  replace h9 := h9.symm
  subst h9
  refine j_istore (lo' := [(5, .int (nI k)), (4, .int (nI 0)), (3, .ref ho), (2, .ref (ad 0)), (1, .ref o), (0, .ref K.1)]) X dL_law_738 (by decide) rfl ?_
  refine j_aload_n X 3 dL_law_740 rfl rfl ?_
  refine law_arg X hZ hL 5 1 1 rfl rfl (by decide) (by decide) dL_law_741 dL_law_742 dL_law_744 dL_law_745 dL_law_746 ?_
  refine law_arg X hZ hL 5 1 2 rfl rfl (by decide) (by decide) dL_law_747 dL_law_748 dL_law_750 dL_law_751 dL_law_752 ?_
  refine p_callVI (p := p) (l := l) (e := e) (below := below) (Q := lw_Z below #[Value.ref K.1] s) (R := room_1) (k9 := 200 + 1) (q9 := 20000 + 6) (pc := 753) (lo := [(5, .int (nI k)), (4, .int (nI 0)), (3, .ref ho), (2, .ref (ad 0)), (1, .ref o), (0, .ref K.1)]) X hA hZ (rest := []) (m_w cI cZ ad m_Z0) ([(ho, .inl (cB, 1, .inr (.inl u9.1)))] ++ z_w cI cZ cT o u9.2) (fun u => ([(ho, .inl (cB, 1, .inr (.inl u9.1)))] ++ z_w cI cZ cT o u9.2) ++ m_w cI cZ ad u) List.perm_append_comm (fun _ => List.Perm.refl _) [.int (K.2.2 1), .int (K.2.2 2)] 0 rfl rfl hM 2 rfl gL_law_X7_team rfl ⟨rfl, rfl⟩ hm_team ⟨Nat.le_of_ble_eq_true rfl, Nat.le_of_ble_eq_true rfl⟩ rfl (Nat.le_of_ble_eq_true rfl) ⟨by show 200 + 1 + 0 ≤ 600002; omega, by show 20000 + 6 + 0 ≤ 7302232; omega⟩ dL_law_753 (fun r8 u8 h8 => ?_)
  obtain ⟨h8a, h8b⟩ := h8
  replace h8a := h8a.symm
  subst h8a
  refine j_istore (lo' := [(6, .int V), (5, .int (nI k)), (4, .int (nI 0)), (3, .ref ho), (2, .ref (ad 0)), (1, .ref o), (0, .ref K.1)]) X dL_law_756 (by decide) rfl ?_
  refine j_aload_n X 4 dL_law_758 rfl rfl ?_
  refine p_callVI (p := p) (l := l) (e := e) (below := below) (Q := lw_Z below #[Value.ref K.1] s) (R := room_1) (k9 := 200 + 1 + 0) (q9 := 20000 + 6 + 0) (pc := 759) (lo := [(6, .int V), (5, .int (nI k)), (4, .int (nI 0)), (3, .ref ho), (2, .ref (ad 0)), (1, .ref o), (0, .ref K.1)]) X hA hZ (rest := []) (m_w cI cZ ad u8) ([(ho, .inl (cB, 1, .inr (.inl u9.1)))] ++ z_w cI cZ cT o u9.2) (fun u => ([(ho, .inl (cB, 1, .inr (.inl u9.1)))] ++ z_w cI cZ cT o u9.2) ++ m_w cI cZ ad u) List.perm_append_comm (fun _ => List.Perm.refl _) [] 0 rfl rfl (m_thrown (cI := cI) (cZ := cZ) (cT := cT) (cB := cB) ad u8) 0 rfl gL_law_X7_thrown rfl ⟨rfl, rfl⟩ hm_thrown ⟨Nat.le_of_ble_eq_true rfl, Nat.le_of_ble_eq_true rfl⟩ rfl (Nat.le_of_ble_eq_true rfl) ⟨by show 200 + 1 + 0 + 0 ≤ 600002; omega, by show 20000 + 6 + 0 + 0 ≤ 7302232; omega⟩ dL_law_759 (fun r7 u7 h7 => ?_)
  refine j_top (y := nI k) (h7.1.trans h8b) ?_
  refine j_iload X 1 dL_law_762 rfl ?_
  refine j_icmp_eq X (tgt := 769) dL_law_764 (by decide) (fun _ => ?_) (fun c9 => absurd rfl c9)
  refine j_iload X 1 dL_law_769 rfl ?_
  refine j_nif_ne X k rfl (by omega) (tgt := 786) dL_law_771 (by decide) (fun _ => ?_) (fun c9 => absurd c9 (by omega))
  refine j_goto X (tgt := 1581) dL_law_786 (by decide) ?_
  refine j_lo [2, 6] (lo' := [(4, .int (nI 0)), (0, .ref K.1)]) rfl ?_
  exact law_fin X hZ hL (Nat.le_of_ble_eq_true rfl) (Nat.le_of_ble_eq_true rfl)
theorem hL_heard : yL_heard.cls ≠ "java/lang/invoke/MethodHandle" ∧ yL_heard.cls ≠ "java/lang/invoke/VarHandle" ∧ (parseMethodDescriptor yL_heard.desc).map (fun d => d.parameters.length) = some 4 := by decide +kernel
theorem hm_heard : yX7_heard.cls = RX7 ∧ yX7_heard.cls ≠ "java/lang/invoke/MethodHandle" ∧ yX7_heard.cls ≠ "java/lang/invoke/VarHandle" ∧ (parseMethodDescriptor yX7_heard.desc).map (fun d => d.parameters.length) = some 2 := by decide +kernel
set_option maxRecDepth 100000 in
set_option maxHeartbeats 4000000 in
theorem lc_heard_t (X : j_X p s m #[Value.ref K.1] meth c code 9 RL wsL_law ret G (j_ty cI cZ cT cB)) (hZ : j_Z K (va_A ([] : va_W) s.heap.size) s s.heap) (hL : K.2.1 = 6) (k : Nat) (hk1 : 1 ≤ k) (hk3 : k ≤ 3) (V : Int32) (hW : jI l G K (j_ty cI cZ cT cB) yL_heard wsL_heard { frames := 7, cells := 1, slots := 6, locals := 104 } ([(ho, .inl (cB, 1, .inr (.inl (fun _ => 0))))] ++ z_w cI cZ cT o z_S0) [.ref o, .int (K.2.2 1), .int (K.2.2 2), .ref ho] 1 6 (fun r (u : (Nat → Int64) × zS) => r = nI k) (fun u => [(ho, .inl (cB, 1, .inr (.inl u.1)))] ++ z_w cI cZ cT o u.2)) (hM : jI l G K (j_ty cI cZ cT cB) yX7_heard wsX7_heard { frames := 2, cells := 0, slots := 0, locals := 43 } (m_w cI cZ ad m_Z0) [.ref (ad 0), .int (K.2.2 1), .int (K.2.2 2)] 0 0 (fun r (u : mS) => r = V ∧ u 0 0 = nI k) (fun u => m_w cI cZ ad u)) : j_V p l e room_1 s m #[Value.ref K.1] below meth c (lw_Z below #[Value.ref K.1] s) G 9 (va_A ([] : va_W) s.heap.size) 200 20000 (([(ho, .inl (cB, 1, .inr (.inl (fun _ => 0))))] ++ z_w cI cZ cT o z_S0) ++ m_w cI cZ ad m_Z0) 789 [(4, .int (nI 0)), (3, .ref ho), (2, .ref (ad 0)), (1, .ref o), (0, .ref K.1)] [] := by
  have hA := hA_law (s := s)
  refine j_aload_n X 3 dL_law_789 rfl rfl ?_
  refine law_arg X hZ hL 4 0 1 rfl rfl (by decide) (by decide) dL_law_790 dL_law_791 dL_law_793 dL_law_794 dL_law_795 ?_
  refine law_arg X hZ hL 4 0 2 rfl rfl (by decide) (by decide) dL_law_796 dL_law_797 dL_law_799 dL_law_800 dL_law_801 ?_
  refine j_aload_n X 1 dL_law_802 rfl rfl ?_
  refine p_callWI (p := p) (l := l) (e := e) (below := below) (Q := lw_Z below #[Value.ref K.1] s) (R := room_1) (k9 := 200) (q9 := 20000) (pc := 803) (lo := [(4, .int (nI 0)), (3, .ref ho), (2, .ref (ad 0)), (1, .ref o), (0, .ref K.1)]) X hA hZ (rest := []) ([(ho, .inl (cB, 1, .inr (.inl (fun _ => 0))))] ++ z_w cI cZ cT o z_S0) (m_w cI cZ ad m_Z0) (fun u : (Nat → Int64) × zS => ([(ho, .inl (cB, 1, .inr (.inl u.1)))] ++ z_w cI cZ cT o u.2) ++ m_w cI cZ ad m_Z0) (List.Perm.refl _) (fun _ => List.perm_append_comm) [.ref o, .int (K.2.2 1), .int (K.2.2 2), .ref ho] hW 4 rfl gL_law_L_heard rfl ⟨rfl, rfl⟩ hL_heard ⟨Nat.le_of_ble_eq_true rfl, Nat.le_of_ble_eq_true rfl⟩ rfl (Nat.le_of_ble_eq_true rfl) ⟨by show 200 + 1 ≤ 600002; omega, by show 20000 + 6 ≤ 7302232; omega⟩ dL_law_803 (fun r9 u9 h9 => ?_)
  replace h9 := h9.symm
  subst h9
  refine j_istore (lo' := [(5, .int (nI k)), (4, .int (nI 0)), (3, .ref ho), (2, .ref (ad 0)), (1, .ref o), (0, .ref K.1)]) X dL_law_806 (by decide) rfl ?_
  refine j_aload_n X 3 dL_law_808 rfl rfl ?_
  refine law_arg X hZ hL 5 1 1 rfl rfl (by decide) (by decide) dL_law_809 dL_law_810 dL_law_812 dL_law_813 dL_law_814 ?_
  refine law_arg X hZ hL 5 1 2 rfl rfl (by decide) (by decide) dL_law_815 dL_law_816 dL_law_818 dL_law_819 dL_law_820 ?_
  refine p_callVI (p := p) (l := l) (e := e) (below := below) (Q := lw_Z below #[Value.ref K.1] s) (R := room_1) (k9 := 200 + 1) (q9 := 20000 + 6) (pc := 821) (lo := [(5, .int (nI k)), (4, .int (nI 0)), (3, .ref ho), (2, .ref (ad 0)), (1, .ref o), (0, .ref K.1)]) X hA hZ (rest := []) (m_w cI cZ ad m_Z0) ([(ho, .inl (cB, 1, .inr (.inl u9.1)))] ++ z_w cI cZ cT o u9.2) (fun u => ([(ho, .inl (cB, 1, .inr (.inl u9.1)))] ++ z_w cI cZ cT o u9.2) ++ m_w cI cZ ad u) List.perm_append_comm (fun _ => List.Perm.refl _) [.int (K.2.2 1), .int (K.2.2 2)] 0 rfl rfl hM 2 rfl gL_law_X7_heard rfl ⟨rfl, rfl⟩ hm_heard ⟨Nat.le_of_ble_eq_true rfl, Nat.le_of_ble_eq_true rfl⟩ rfl (Nat.le_of_ble_eq_true rfl) ⟨by show 200 + 1 + 0 ≤ 600002; omega, by show 20000 + 6 + 0 ≤ 7302232; omega⟩ dL_law_821 (fun r8 u8 h8 => ?_)
  obtain ⟨h8a, h8b⟩ := h8
  replace h8a := h8a.symm
  subst h8a
  refine j_istore (lo' := [(6, .int V), (5, .int (nI k)), (4, .int (nI 0)), (3, .ref ho), (2, .ref (ad 0)), (1, .ref o), (0, .ref K.1)]) X dL_law_824 (by decide) rfl ?_
  refine j_aload_n X 4 dL_law_826 rfl rfl ?_
  refine p_callVI (p := p) (l := l) (e := e) (below := below) (Q := lw_Z below #[Value.ref K.1] s) (R := room_1) (k9 := 200 + 1 + 0) (q9 := 20000 + 6 + 0) (pc := 827) (lo := [(6, .int V), (5, .int (nI k)), (4, .int (nI 0)), (3, .ref ho), (2, .ref (ad 0)), (1, .ref o), (0, .ref K.1)]) X hA hZ (rest := []) (m_w cI cZ ad u8) ([(ho, .inl (cB, 1, .inr (.inl u9.1)))] ++ z_w cI cZ cT o u9.2) (fun u => ([(ho, .inl (cB, 1, .inr (.inl u9.1)))] ++ z_w cI cZ cT o u9.2) ++ m_w cI cZ ad u) List.perm_append_comm (fun _ => List.Perm.refl _) [] 0 rfl rfl (m_thrown (cI := cI) (cZ := cZ) (cT := cT) (cB := cB) ad u8) 0 rfl gL_law_X7_thrown rfl ⟨rfl, rfl⟩ hm_thrown ⟨Nat.le_of_ble_eq_true rfl, Nat.le_of_ble_eq_true rfl⟩ rfl (Nat.le_of_ble_eq_true rfl) ⟨by show 200 + 1 + 0 + 0 ≤ 600002; omega, by show 20000 + 6 + 0 + 0 ≤ 7302232; omega⟩ dL_law_827 (fun r7 u7 h7 => ?_)
  refine j_top (y := nI k) (h7.1.trans h8b) ?_
  refine j_iload X 1 dL_law_830 rfl ?_
  refine j_icmp_eq X (tgt := 837) dL_law_832 (by decide) (fun _ => ?_) (fun c9 => absurd rfl c9)
  refine j_iload X 1 dL_law_837 rfl ?_
  refine j_nif_ne X k rfl (by omega) (tgt := 854) dL_law_839 (by decide) (fun _ => ?_) (fun c9 => absurd c9 (by omega))
  refine j_goto X (tgt := 1581) dL_law_854 (by decide) ?_
  refine j_lo [2, 6] (lo' := [(4, .int (nI 0)), (0, .ref K.1)]) rfl ?_
  exact law_fin X hZ hL (Nat.le_of_ble_eq_true rfl) (Nat.le_of_ble_eq_true rfl)
theorem hL_pass : yL_pass.cls ≠ "java/lang/invoke/MethodHandle" ∧ yL_pass.cls ≠ "java/lang/invoke/VarHandle" ∧ (parseMethodDescriptor yL_pass.desc).map (fun d => d.parameters.length) = some 3 := by decide +kernel
theorem hm_pass : yX7_pass.cls = RX7 ∧ yX7_pass.cls ≠ "java/lang/invoke/MethodHandle" ∧ yX7_pass.cls ≠ "java/lang/invoke/VarHandle" ∧ (parseMethodDescriptor yX7_pass.desc).map (fun d => d.parameters.length) = some 1 := by decide +kernel
set_option maxRecDepth 100000 in
set_option maxHeartbeats 4000000 in
theorem lc_pass_t (X : j_X p s m #[Value.ref K.1] meth c code 9 RL wsL_law ret G (j_ty cI cZ cT cB)) (hZ : j_Z K (va_A ([] : va_W) s.heap.size) s s.heap) (hL : K.2.1 = 6) (k : Nat) (hk1 : 1 ≤ k) (hk3 : k ≤ 3) (V : Int32) (hW : jI l G K (j_ty cI cZ cT cB) yL_pass wsL_pass { frames := 7, cells := 1, slots := 6, locals := 157 } ([(ho, .inl (cB, 1, .inr (.inl (fun _ => 0))))] ++ z_w cI cZ cT o z_S0) [.ref o, .int (K.2.2 1), .ref ho] 1 6 (fun r (u : (Nat → Int64) × zS) => r = nI k) (fun u => [(ho, .inl (cB, 1, .inr (.inl u.1)))] ++ z_w cI cZ cT o u.2)) (hM : jI l G K (j_ty cI cZ cT cB) yX7_pass wsX7_pass { frames := 8, cells := 0, slots := 0, locals := 187 } (m_w cI cZ ad m_Z0) [.ref (ad 0), .int (K.2.2 1)] 0 0 (fun r (u : mS) => r = V ∧ u 0 0 = nI k) (fun u => m_w cI cZ ad u)) : j_V p l e room_1 s m #[Value.ref K.1] below meth c (lw_Z below #[Value.ref K.1] s) G 9 (va_A ([] : va_W) s.heap.size) 200 20000 (([(ho, .inl (cB, 1, .inr (.inl (fun _ => 0))))] ++ z_w cI cZ cT o z_S0) ++ m_w cI cZ ad m_Z0) 857 [(4, .int (nI 0)), (3, .ref ho), (2, .ref (ad 0)), (1, .ref o), (0, .ref K.1)] [] := by
  have hA := hA_law (s := s)
  refine j_aload_n X 3 dL_law_857 rfl rfl ?_
  refine law_arg X hZ hL 4 0 1 rfl rfl (by decide) (by decide) dL_law_858 dL_law_859 dL_law_861 dL_law_862 dL_law_863 ?_
  refine j_aload_n X 1 dL_law_864 rfl rfl ?_
  refine p_callWI (p := p) (l := l) (e := e) (below := below) (Q := lw_Z below #[Value.ref K.1] s) (R := room_1) (k9 := 200) (q9 := 20000) (pc := 865) (lo := [(4, .int (nI 0)), (3, .ref ho), (2, .ref (ad 0)), (1, .ref o), (0, .ref K.1)]) X hA hZ (rest := []) ([(ho, .inl (cB, 1, .inr (.inl (fun _ => 0))))] ++ z_w cI cZ cT o z_S0) (m_w cI cZ ad m_Z0) (fun u : (Nat → Int64) × zS => ([(ho, .inl (cB, 1, .inr (.inl u.1)))] ++ z_w cI cZ cT o u.2) ++ m_w cI cZ ad m_Z0) (List.Perm.refl _) (fun _ => List.perm_append_comm) [.ref o, .int (K.2.2 1), .ref ho] hW 3 rfl gL_law_L_pass rfl ⟨rfl, rfl⟩ hL_pass ⟨Nat.le_of_ble_eq_true rfl, Nat.le_of_ble_eq_true rfl⟩ rfl (Nat.le_of_ble_eq_true rfl) ⟨by show 200 + 1 ≤ 600002; omega, by show 20000 + 6 ≤ 7302232; omega⟩ dL_law_865 (fun r9 u9 h9 => ?_)
  replace h9 := h9.symm
  subst h9
  refine j_istore (lo' := [(5, .int (nI k)), (4, .int (nI 0)), (3, .ref ho), (2, .ref (ad 0)), (1, .ref o), (0, .ref K.1)]) X dL_law_868 (by decide) rfl ?_
  refine j_aload_n X 3 dL_law_870 rfl rfl ?_
  refine law_arg X hZ hL 5 1 1 rfl rfl (by decide) (by decide) dL_law_871 dL_law_872 dL_law_874 dL_law_875 dL_law_876 ?_
  refine p_callVI (p := p) (l := l) (e := e) (below := below) (Q := lw_Z below #[Value.ref K.1] s) (R := room_1) (k9 := 200 + 1) (q9 := 20000 + 6) (pc := 877) (lo := [(5, .int (nI k)), (4, .int (nI 0)), (3, .ref ho), (2, .ref (ad 0)), (1, .ref o), (0, .ref K.1)]) X hA hZ (rest := []) (m_w cI cZ ad m_Z0) ([(ho, .inl (cB, 1, .inr (.inl u9.1)))] ++ z_w cI cZ cT o u9.2) (fun u => ([(ho, .inl (cB, 1, .inr (.inl u9.1)))] ++ z_w cI cZ cT o u9.2) ++ m_w cI cZ ad u) List.perm_append_comm (fun _ => List.Perm.refl _) [.int (K.2.2 1)] 0 rfl rfl hM 1 rfl gL_law_X7_pass rfl ⟨rfl, rfl⟩ hm_pass ⟨Nat.le_of_ble_eq_true rfl, Nat.le_of_ble_eq_true rfl⟩ rfl (Nat.le_of_ble_eq_true rfl) ⟨by show 200 + 1 + 0 ≤ 600002; omega, by show 20000 + 6 + 0 ≤ 7302232; omega⟩ dL_law_877 (fun r8 u8 h8 => ?_)
  obtain ⟨h8a, h8b⟩ := h8
  replace h8a := h8a.symm
  subst h8a
  refine j_istore (lo' := [(6, .int V), (5, .int (nI k)), (4, .int (nI 0)), (3, .ref ho), (2, .ref (ad 0)), (1, .ref o), (0, .ref K.1)]) X dL_law_880 (by decide) rfl ?_
  refine j_aload_n X 4 dL_law_882 rfl rfl ?_
  refine p_callVI (p := p) (l := l) (e := e) (below := below) (Q := lw_Z below #[Value.ref K.1] s) (R := room_1) (k9 := 200 + 1 + 0) (q9 := 20000 + 6 + 0) (pc := 883) (lo := [(6, .int V), (5, .int (nI k)), (4, .int (nI 0)), (3, .ref ho), (2, .ref (ad 0)), (1, .ref o), (0, .ref K.1)]) X hA hZ (rest := []) (m_w cI cZ ad u8) ([(ho, .inl (cB, 1, .inr (.inl u9.1)))] ++ z_w cI cZ cT o u9.2) (fun u => ([(ho, .inl (cB, 1, .inr (.inl u9.1)))] ++ z_w cI cZ cT o u9.2) ++ m_w cI cZ ad u) List.perm_append_comm (fun _ => List.Perm.refl _) [] 0 rfl rfl (m_thrown (cI := cI) (cZ := cZ) (cT := cT) (cB := cB) ad u8) 0 rfl gL_law_X7_thrown rfl ⟨rfl, rfl⟩ hm_thrown ⟨Nat.le_of_ble_eq_true rfl, Nat.le_of_ble_eq_true rfl⟩ rfl (Nat.le_of_ble_eq_true rfl) ⟨by show 200 + 1 + 0 + 0 ≤ 600002; omega, by show 20000 + 6 + 0 + 0 ≤ 7302232; omega⟩ dL_law_883 (fun r7 u7 h7 => ?_)
  refine j_top (y := nI k) (h7.1.trans h8b) ?_
  refine j_iload X 1 dL_law_886 rfl ?_
  refine j_icmp_eq X (tgt := 893) dL_law_888 (by decide) (fun _ => ?_) (fun c9 => absurd rfl c9)
  refine j_iload X 1 dL_law_893 rfl ?_
  refine j_nif_ne X k rfl (by omega) (tgt := 910) dL_law_895 (by decide) (fun _ => ?_) (fun c9 => absurd c9 (by omega))
  refine j_goto X (tgt := 1581) dL_law_910 (by decide) ?_
  refine j_lo [2, 6] (lo' := [(4, .int (nI 0)), (0, .ref K.1)]) rfl ?_
  exact law_fin X hZ hL (Nat.le_of_ble_eq_true rfl) (Nat.le_of_ble_eq_true rfl)
set_option maxRecDepth 100000 in
set_option maxHeartbeats 4000000 in
theorem lc_pass_n (X : j_X p s m #[Value.ref K.1] meth c code 9 RL wsL_law ret G (j_ty cI cZ cT cB)) (hZ : j_Z K (va_A ([] : va_W) s.heap.size) s s.heap) (hL : K.2.1 = 6) (V : Int32) (hW : jI l G K (j_ty cI cZ cT cB) yL_pass wsL_pass { frames := 7, cells := 0, slots := 0, locals := 157 } ([(ho, .inl (cB, 1, .inr (.inl (fun _ => 0))))] ++ z_w cI cZ cT o z_S0) [.ref o, .int (K.2.2 1), .ref ho] 0 0 (fun r (u : (Nat → Int64) × zS) => r = nI 0 ∧ u.1 0 = V.toInt64) (fun u => [(ho, .inl (cB, 1, .inr (.inl u.1)))] ++ z_w cI cZ cT o u.2)) (hM : jI l G K (j_ty cI cZ cT cB) yX7_pass wsX7_pass { frames := 8, cells := 0, slots := 0, locals := 187 } (m_w cI cZ ad m_Z0) [.ref (ad 0), .int (K.2.2 1)] 0 0 (fun r (u : mS) => r = V ∧ u 0 0 = nI 0) (fun u => m_w cI cZ ad u)) : j_V p l e room_1 s m #[Value.ref K.1] below meth c (lw_Z below #[Value.ref K.1] s) G 9 (va_A ([] : va_W) s.heap.size) 200 20000 (([(ho, .inl (cB, 1, .inr (.inl (fun _ => 0))))] ++ z_w cI cZ cT o z_S0) ++ m_w cI cZ ad m_Z0) 857 [(4, .int (nI 0)), (3, .ref ho), (2, .ref (ad 0)), (1, .ref o), (0, .ref K.1)] [] := by
  have hA := hA_law (s := s)
  refine j_aload_n X 3 dL_law_857 rfl rfl ?_
  refine law_arg X hZ hL 4 0 1 rfl rfl (by decide) (by decide) dL_law_858 dL_law_859 dL_law_861 dL_law_862 dL_law_863 ?_
  refine j_aload_n X 1 dL_law_864 rfl rfl ?_
  refine p_callWI (p := p) (l := l) (e := e) (below := below) (Q := lw_Z below #[Value.ref K.1] s) (R := room_1) (k9 := 200) (q9 := 20000) (pc := 865) (lo := [(4, .int (nI 0)), (3, .ref ho), (2, .ref (ad 0)), (1, .ref o), (0, .ref K.1)]) X hA hZ (rest := []) ([(ho, .inl (cB, 1, .inr (.inl (fun _ => 0))))] ++ z_w cI cZ cT o z_S0) (m_w cI cZ ad m_Z0) (fun u : (Nat → Int64) × zS => ([(ho, .inl (cB, 1, .inr (.inl u.1)))] ++ z_w cI cZ cT o u.2) ++ m_w cI cZ ad m_Z0) (List.Perm.refl _) (fun _ => List.perm_append_comm) [.ref o, .int (K.2.2 1), .ref ho] hW 3 rfl gL_law_L_pass rfl ⟨rfl, rfl⟩ hL_pass ⟨Nat.le_of_ble_eq_true rfl, Nat.le_of_ble_eq_true rfl⟩ rfl (Nat.le_of_ble_eq_true rfl) ⟨by show 200 + 0 ≤ 600002; omega, by show 20000 + 0 ≤ 7302232; omega⟩ dL_law_865 (fun r9 u9 h9 => ?_)
  obtain ⟨h9a, h9b⟩ := h9
  replace h9a := h9a.symm
  subst h9a
  refine j_istore (lo' := [(5, .int (nI 0)), (4, .int (nI 0)), (3, .ref ho), (2, .ref (ad 0)), (1, .ref o), (0, .ref K.1)]) X dL_law_868 (by decide) rfl ?_
  refine j_aload_n X 3 dL_law_870 rfl rfl ?_
  refine law_arg X hZ hL 5 1 1 rfl rfl (by decide) (by decide) dL_law_871 dL_law_872 dL_law_874 dL_law_875 dL_law_876 ?_
  refine p_callVI (p := p) (l := l) (e := e) (below := below) (Q := lw_Z below #[Value.ref K.1] s) (R := room_1) (k9 := 200 + 0) (q9 := 20000 + 0) (pc := 877) (lo := [(5, .int (nI 0)), (4, .int (nI 0)), (3, .ref ho), (2, .ref (ad 0)), (1, .ref o), (0, .ref K.1)]) X hA hZ (rest := []) (m_w cI cZ ad m_Z0) ([(ho, .inl (cB, 1, .inr (.inl u9.1)))] ++ z_w cI cZ cT o u9.2) (fun u => ([(ho, .inl (cB, 1, .inr (.inl u9.1)))] ++ z_w cI cZ cT o u9.2) ++ m_w cI cZ ad u) List.perm_append_comm (fun _ => List.Perm.refl _) [.int (K.2.2 1)] 0 rfl rfl hM 1 rfl gL_law_X7_pass rfl ⟨rfl, rfl⟩ hm_pass ⟨Nat.le_of_ble_eq_true rfl, Nat.le_of_ble_eq_true rfl⟩ rfl (Nat.le_of_ble_eq_true rfl) ⟨by show 200 + 0 + 0 ≤ 600002; omega, by show 20000 + 0 + 0 ≤ 7302232; omega⟩ dL_law_877 (fun r8 u8 h8 => ?_)
  obtain ⟨h8a, h8b⟩ := h8
  replace h8a := h8a.symm
  subst h8a
  refine j_istore (lo' := [(6, .int V), (5, .int (nI 0)), (4, .int (nI 0)), (3, .ref ho), (2, .ref (ad 0)), (1, .ref o), (0, .ref K.1)]) X dL_law_880 (by decide) rfl ?_
  refine j_aload_n X 4 dL_law_882 rfl rfl ?_
  refine p_callVI (p := p) (l := l) (e := e) (below := below) (Q := lw_Z below #[Value.ref K.1] s) (R := room_1) (k9 := 200 + 0 + 0) (q9 := 20000 + 0 + 0) (pc := 883) (lo := [(6, .int V), (5, .int (nI 0)), (4, .int (nI 0)), (3, .ref ho), (2, .ref (ad 0)), (1, .ref o), (0, .ref K.1)]) X hA hZ (rest := []) (m_w cI cZ ad u8) ([(ho, .inl (cB, 1, .inr (.inl u9.1)))] ++ z_w cI cZ cT o u9.2) (fun u => ([(ho, .inl (cB, 1, .inr (.inl u9.1)))] ++ z_w cI cZ cT o u9.2) ++ m_w cI cZ ad u) List.perm_append_comm (fun _ => List.Perm.refl _) [] 0 rfl rfl (m_thrown (cI := cI) (cZ := cZ) (cT := cT) (cB := cB) ad u8) 0 rfl gL_law_X7_thrown rfl ⟨rfl, rfl⟩ hm_thrown ⟨Nat.le_of_ble_eq_true rfl, Nat.le_of_ble_eq_true rfl⟩ rfl (Nat.le_of_ble_eq_true rfl) ⟨by show 200 + 0 + 0 + 0 ≤ 600002; omega, by show 20000 + 0 + 0 + 0 ≤ 7302232; omega⟩ dL_law_883 (fun r7 u7 h7 => ?_)
  refine j_top (y := nI 0) (h7.1.trans h8b) ?_
  refine j_iload X 1 dL_law_886 rfl ?_
  refine j_icmp_eq X (tgt := 893) dL_law_888 (by decide) (fun _ => ?_) (fun c9 => absurd rfl c9)
  refine j_iload X 1 dL_law_893 rfl ?_
  refine j_nif_ne X 0 rfl (by omega) (tgt := 910) dL_law_895 (by decide) (fun c9 => absurd rfl c9) (fun _ => ?_)
  refine j_aload_n X 3 dL_law_898 rfl rfl ?_
  refine j_iconst (v := nI 0) X (by decide) dL_law_899 ?_
  refine j_lald X 0 3 rfl rfl 0 rfl (by decide) (by decide) dL_law_900 ?_
  refine j_iload X 0 dL_law_901 rfl ?_
  refine j_i2l X dL_law_903 ?_
  refine j_lcmp X dL_law_904 ?_
  refine j_if_eq X (tgt := 910) dL_law_905 (by decide) (fun _ => ?_) (fun c9 => absurd (by rw [h9b]; exact cmp_self _) c9)
  refine j_goto X (tgt := 1581) dL_law_910 (by decide) ?_
  refine j_lo [2, 6] (lo' := [(4, .int (nI 0)), (0, .ref K.1)]) rfl ?_
  exact law_fin X hZ hL (Nat.le_of_ble_eq_true rfl) (Nat.le_of_ble_eq_true rfl)
theorem hL_count : yL_count.cls ≠ "java/lang/invoke/MethodHandle" ∧ yL_count.cls ≠ "java/lang/invoke/VarHandle" ∧ (parseMethodDescriptor yL_count.desc).map (fun d => d.parameters.length) = some 3 := by decide +kernel
theorem hm_count : yX7_count.cls = RX7 ∧ yX7_count.cls ≠ "java/lang/invoke/MethodHandle" ∧ yX7_count.cls ≠ "java/lang/invoke/VarHandle" ∧ (parseMethodDescriptor yX7_count.desc).map (fun d => d.parameters.length) = some 1 := by decide +kernel
set_option maxRecDepth 100000 in
set_option maxHeartbeats 4000000 in
theorem lc_count_t (X : j_X p s m #[Value.ref K.1] meth c code 9 RL wsL_law ret G (j_ty cI cZ cT cB)) (hZ : j_Z K (va_A ([] : va_W) s.heap.size) s s.heap) (hL : K.2.1 = 6) (k : Nat) (hk1 : 1 ≤ k) (hk3 : k ≤ 3) (V : Int32) (hW : jI l G K (j_ty cI cZ cT cB) yL_count wsL_count { frames := 7, cells := 1, slots := 6, locals := 103 } ([(ho, .inl (cB, 1, .inr (.inl (fun _ => 0))))] ++ z_w cI cZ cT o z_S0) [.ref o, .int (K.2.2 1), .ref ho] 1 6 (fun r (u : (Nat → Int64) × zS) => r = nI k) (fun u => [(ho, .inl (cB, 1, .inr (.inl u.1)))] ++ z_w cI cZ cT o u.2)) (hM : jI l G K (j_ty cI cZ cT cB) yX7_count wsX7_count { frames := 3, cells := 1, slots := 12, locals := 71 } (m_w cI cZ ad m_Z0) [.ref (ad 0), .int (K.2.2 1)] 1 12 (fun r (u : mS) => r = V ∧ u 0 0 = nI k) (fun u => m_w cI cZ ad u)) : j_V p l e room_1 s m #[Value.ref K.1] below meth c (lw_Z below #[Value.ref K.1] s) G 9 (va_A ([] : va_W) s.heap.size) 200 20000 (([(ho, .inl (cB, 1, .inr (.inl (fun _ => 0))))] ++ z_w cI cZ cT o z_S0) ++ m_w cI cZ ad m_Z0) 913 [(4, .int (nI 0)), (3, .ref ho), (2, .ref (ad 0)), (1, .ref o), (0, .ref K.1)] [] := by
  have hA := hA_law (s := s)
  refine j_aload_n X 3 dL_law_913 rfl rfl ?_
  refine law_arg X hZ hL 4 0 1 rfl rfl (by decide) (by decide) dL_law_914 dL_law_915 dL_law_917 dL_law_918 dL_law_919 ?_
  refine j_aload_n X 1 dL_law_920 rfl rfl ?_
  refine p_callWI (p := p) (l := l) (e := e) (below := below) (Q := lw_Z below #[Value.ref K.1] s) (R := room_1) (k9 := 200) (q9 := 20000) (pc := 921) (lo := [(4, .int (nI 0)), (3, .ref ho), (2, .ref (ad 0)), (1, .ref o), (0, .ref K.1)]) X hA hZ (rest := []) ([(ho, .inl (cB, 1, .inr (.inl (fun _ => 0))))] ++ z_w cI cZ cT o z_S0) (m_w cI cZ ad m_Z0) (fun u : (Nat → Int64) × zS => ([(ho, .inl (cB, 1, .inr (.inl u.1)))] ++ z_w cI cZ cT o u.2) ++ m_w cI cZ ad m_Z0) (List.Perm.refl _) (fun _ => List.perm_append_comm) [.ref o, .int (K.2.2 1), .ref ho] hW 3 rfl gL_law_L_count rfl ⟨rfl, rfl⟩ hL_count ⟨Nat.le_of_ble_eq_true rfl, Nat.le_of_ble_eq_true rfl⟩ rfl (Nat.le_of_ble_eq_true rfl) ⟨by show 200 + 1 ≤ 600002; omega, by show 20000 + 6 ≤ 7302232; omega⟩ dL_law_921 (fun r9 u9 h9 => ?_)
  replace h9 := h9.symm
  subst h9
  refine j_istore (lo' := [(5, .int (nI k)), (4, .int (nI 0)), (3, .ref ho), (2, .ref (ad 0)), (1, .ref o), (0, .ref K.1)]) X dL_law_924 (by decide) rfl ?_
  refine j_aload_n X 3 dL_law_926 rfl rfl ?_
  refine law_arg X hZ hL 5 1 1 rfl rfl (by decide) (by decide) dL_law_927 dL_law_928 dL_law_930 dL_law_931 dL_law_932 ?_
  refine p_callVI (p := p) (l := l) (e := e) (below := below) (Q := lw_Z below #[Value.ref K.1] s) (R := room_1) (k9 := 200 + 1) (q9 := 20000 + 6) (pc := 933) (lo := [(5, .int (nI k)), (4, .int (nI 0)), (3, .ref ho), (2, .ref (ad 0)), (1, .ref o), (0, .ref K.1)]) X hA hZ (rest := []) (m_w cI cZ ad m_Z0) ([(ho, .inl (cB, 1, .inr (.inl u9.1)))] ++ z_w cI cZ cT o u9.2) (fun u => ([(ho, .inl (cB, 1, .inr (.inl u9.1)))] ++ z_w cI cZ cT o u9.2) ++ m_w cI cZ ad u) List.perm_append_comm (fun _ => List.Perm.refl _) [.int (K.2.2 1)] 0 rfl rfl hM 1 rfl gL_law_X7_count rfl ⟨rfl, rfl⟩ hm_count ⟨Nat.le_of_ble_eq_true rfl, Nat.le_of_ble_eq_true rfl⟩ rfl (Nat.le_of_ble_eq_true rfl) ⟨by show 200 + 1 + 1 ≤ 600002; omega, by show 20000 + 6 + 12 ≤ 7302232; omega⟩ dL_law_933 (fun r8 u8 h8 => ?_)
  obtain ⟨h8a, h8b⟩ := h8
  replace h8a := h8a.symm
  subst h8a
  refine j_istore (lo' := [(6, .int V), (5, .int (nI k)), (4, .int (nI 0)), (3, .ref ho), (2, .ref (ad 0)), (1, .ref o), (0, .ref K.1)]) X dL_law_936 (by decide) rfl ?_
  refine j_aload_n X 4 dL_law_938 rfl rfl ?_
  refine p_callVI (p := p) (l := l) (e := e) (below := below) (Q := lw_Z below #[Value.ref K.1] s) (R := room_1) (k9 := 200 + 1 + 1) (q9 := 20000 + 6 + 12) (pc := 939) (lo := [(6, .int V), (5, .int (nI k)), (4, .int (nI 0)), (3, .ref ho), (2, .ref (ad 0)), (1, .ref o), (0, .ref K.1)]) X hA hZ (rest := []) (m_w cI cZ ad u8) ([(ho, .inl (cB, 1, .inr (.inl u9.1)))] ++ z_w cI cZ cT o u9.2) (fun u => ([(ho, .inl (cB, 1, .inr (.inl u9.1)))] ++ z_w cI cZ cT o u9.2) ++ m_w cI cZ ad u) List.perm_append_comm (fun _ => List.Perm.refl _) [] 0 rfl rfl (m_thrown (cI := cI) (cZ := cZ) (cT := cT) (cB := cB) ad u8) 0 rfl gL_law_X7_thrown rfl ⟨rfl, rfl⟩ hm_thrown ⟨Nat.le_of_ble_eq_true rfl, Nat.le_of_ble_eq_true rfl⟩ rfl (Nat.le_of_ble_eq_true rfl) ⟨by show 200 + 1 + 1 + 0 ≤ 600002; omega, by show 20000 + 6 + 12 + 0 ≤ 7302232; omega⟩ dL_law_939 (fun r7 u7 h7 => ?_)
  refine j_top (y := nI k) (h7.1.trans h8b) ?_
  refine j_iload X 1 dL_law_942 rfl ?_
  refine j_icmp_eq X (tgt := 949) dL_law_944 (by decide) (fun _ => ?_) (fun c9 => absurd rfl c9)
  refine j_iload X 1 dL_law_949 rfl ?_
  refine j_nif_ne X k rfl (by omega) (tgt := 966) dL_law_951 (by decide) (fun _ => ?_) (fun c9 => absurd c9 (by omega))
  refine j_goto X (tgt := 1581) dL_law_966 (by decide) ?_
  refine j_lo [2, 6] (lo' := [(4, .int (nI 0)), (0, .ref K.1)]) rfl ?_
  exact law_fin X hZ hL (Nat.le_of_ble_eq_true rfl) (Nat.le_of_ble_eq_true rfl)
set_option maxRecDepth 100000 in
set_option maxHeartbeats 4000000 in
theorem lc_count_n (X : j_X p s m #[Value.ref K.1] meth c code 9 RL wsL_law ret G (j_ty cI cZ cT cB)) (hZ : j_Z K (va_A ([] : va_W) s.heap.size) s s.heap) (hL : K.2.1 = 6) (V : Int32) (hW : jI l G K (j_ty cI cZ cT cB) yL_count wsL_count { frames := 4, cells := 0, slots := 0, locals := 86 } ([(ho, .inl (cB, 1, .inr (.inl (fun _ => 0))))] ++ z_w cI cZ cT o z_S0) [.ref o, .int (K.2.2 1), .ref ho] 0 0 (fun r (u : (Nat → Int64) × zS) => r = nI 0 ∧ u.1 0 = V.toInt64) (fun u => [(ho, .inl (cB, 1, .inr (.inl u.1)))] ++ z_w cI cZ cT o u.2)) (hM : jI l G K (j_ty cI cZ cT cB) yX7_count wsX7_count { frames := 3, cells := 1, slots := 12, locals := 71 } (m_w cI cZ ad m_Z0) [.ref (ad 0), .int (K.2.2 1)] 1 12 (fun r (u : mS) => r = V ∧ u 0 0 = nI 0) (fun u => m_w cI cZ ad u)) : j_V p l e room_1 s m #[Value.ref K.1] below meth c (lw_Z below #[Value.ref K.1] s) G 9 (va_A ([] : va_W) s.heap.size) 200 20000 (([(ho, .inl (cB, 1, .inr (.inl (fun _ => 0))))] ++ z_w cI cZ cT o z_S0) ++ m_w cI cZ ad m_Z0) 913 [(4, .int (nI 0)), (3, .ref ho), (2, .ref (ad 0)), (1, .ref o), (0, .ref K.1)] [] := by
  have hA := hA_law (s := s)
  refine j_aload_n X 3 dL_law_913 rfl rfl ?_
  refine law_arg X hZ hL 4 0 1 rfl rfl (by decide) (by decide) dL_law_914 dL_law_915 dL_law_917 dL_law_918 dL_law_919 ?_
  refine j_aload_n X 1 dL_law_920 rfl rfl ?_
  refine p_callWI (p := p) (l := l) (e := e) (below := below) (Q := lw_Z below #[Value.ref K.1] s) (R := room_1) (k9 := 200) (q9 := 20000) (pc := 921) (lo := [(4, .int (nI 0)), (3, .ref ho), (2, .ref (ad 0)), (1, .ref o), (0, .ref K.1)]) X hA hZ (rest := []) ([(ho, .inl (cB, 1, .inr (.inl (fun _ => 0))))] ++ z_w cI cZ cT o z_S0) (m_w cI cZ ad m_Z0) (fun u : (Nat → Int64) × zS => ([(ho, .inl (cB, 1, .inr (.inl u.1)))] ++ z_w cI cZ cT o u.2) ++ m_w cI cZ ad m_Z0) (List.Perm.refl _) (fun _ => List.perm_append_comm) [.ref o, .int (K.2.2 1), .ref ho] hW 3 rfl gL_law_L_count rfl ⟨rfl, rfl⟩ hL_count ⟨Nat.le_of_ble_eq_true rfl, Nat.le_of_ble_eq_true rfl⟩ rfl (Nat.le_of_ble_eq_true rfl) ⟨by show 200 + 0 ≤ 600002; omega, by show 20000 + 0 ≤ 7302232; omega⟩ dL_law_921 (fun r9 u9 h9 => ?_)
  obtain ⟨h9a, h9b⟩ := h9
  replace h9a := h9a.symm
  subst h9a
  refine j_istore (lo' := [(5, .int (nI 0)), (4, .int (nI 0)), (3, .ref ho), (2, .ref (ad 0)), (1, .ref o), (0, .ref K.1)]) X dL_law_924 (by decide) rfl ?_
  refine j_aload_n X 3 dL_law_926 rfl rfl ?_
  refine law_arg X hZ hL 5 1 1 rfl rfl (by decide) (by decide) dL_law_927 dL_law_928 dL_law_930 dL_law_931 dL_law_932 ?_
  refine p_callVI (p := p) (l := l) (e := e) (below := below) (Q := lw_Z below #[Value.ref K.1] s) (R := room_1) (k9 := 200 + 0) (q9 := 20000 + 0) (pc := 933) (lo := [(5, .int (nI 0)), (4, .int (nI 0)), (3, .ref ho), (2, .ref (ad 0)), (1, .ref o), (0, .ref K.1)]) X hA hZ (rest := []) (m_w cI cZ ad m_Z0) ([(ho, .inl (cB, 1, .inr (.inl u9.1)))] ++ z_w cI cZ cT o u9.2) (fun u => ([(ho, .inl (cB, 1, .inr (.inl u9.1)))] ++ z_w cI cZ cT o u9.2) ++ m_w cI cZ ad u) List.perm_append_comm (fun _ => List.Perm.refl _) [.int (K.2.2 1)] 0 rfl rfl hM 1 rfl gL_law_X7_count rfl ⟨rfl, rfl⟩ hm_count ⟨Nat.le_of_ble_eq_true rfl, Nat.le_of_ble_eq_true rfl⟩ rfl (Nat.le_of_ble_eq_true rfl) ⟨by show 200 + 0 + 1 ≤ 600002; omega, by show 20000 + 0 + 12 ≤ 7302232; omega⟩ dL_law_933 (fun r8 u8 h8 => ?_)
  obtain ⟨h8a, h8b⟩ := h8
  replace h8a := h8a.symm
  subst h8a
  refine j_istore (lo' := [(6, .int V), (5, .int (nI 0)), (4, .int (nI 0)), (3, .ref ho), (2, .ref (ad 0)), (1, .ref o), (0, .ref K.1)]) X dL_law_936 (by decide) rfl ?_
  refine j_aload_n X 4 dL_law_938 rfl rfl ?_
  refine p_callVI (p := p) (l := l) (e := e) (below := below) (Q := lw_Z below #[Value.ref K.1] s) (R := room_1) (k9 := 200 + 0 + 1) (q9 := 20000 + 0 + 12) (pc := 939) (lo := [(6, .int V), (5, .int (nI 0)), (4, .int (nI 0)), (3, .ref ho), (2, .ref (ad 0)), (1, .ref o), (0, .ref K.1)]) X hA hZ (rest := []) (m_w cI cZ ad u8) ([(ho, .inl (cB, 1, .inr (.inl u9.1)))] ++ z_w cI cZ cT o u9.2) (fun u => ([(ho, .inl (cB, 1, .inr (.inl u9.1)))] ++ z_w cI cZ cT o u9.2) ++ m_w cI cZ ad u) List.perm_append_comm (fun _ => List.Perm.refl _) [] 0 rfl rfl (m_thrown (cI := cI) (cZ := cZ) (cT := cT) (cB := cB) ad u8) 0 rfl gL_law_X7_thrown rfl ⟨rfl, rfl⟩ hm_thrown ⟨Nat.le_of_ble_eq_true rfl, Nat.le_of_ble_eq_true rfl⟩ rfl (Nat.le_of_ble_eq_true rfl) ⟨by show 200 + 0 + 1 + 0 ≤ 600002; omega, by show 20000 + 0 + 12 + 0 ≤ 7302232; omega⟩ dL_law_939 (fun r7 u7 h7 => ?_)
  refine j_top (y := nI 0) (h7.1.trans h8b) ?_
  refine j_iload X 1 dL_law_942 rfl ?_
  refine j_icmp_eq X (tgt := 949) dL_law_944 (by decide) (fun _ => ?_) (fun c9 => absurd rfl c9)
  refine j_iload X 1 dL_law_949 rfl ?_
  refine j_nif_ne X 0 rfl (by omega) (tgt := 966) dL_law_951 (by decide) (fun c9 => absurd rfl c9) (fun _ => ?_)
  refine j_aload_n X 3 dL_law_954 rfl rfl ?_
  refine j_iconst (v := nI 0) X (by decide) dL_law_955 ?_
  refine j_lald X 0 3 rfl rfl 0 rfl (by decide) (by decide) dL_law_956 ?_
  refine j_iload X 0 dL_law_957 rfl ?_
  refine j_i2l X dL_law_959 ?_
  refine j_lcmp X dL_law_960 ?_
  refine j_if_eq X (tgt := 966) dL_law_961 (by decide) (fun _ => ?_) (fun c9 => absurd (by rw [h9b]; exact cmp_self _) c9)
  refine j_goto X (tgt := 1581) dL_law_966 (by decide) ?_
  refine j_lo [2, 6] (lo' := [(4, .int (nI 0)), (0, .ref K.1)]) rfl ?_
  exact law_fin X hZ hL (Nat.le_of_ble_eq_true rfl) (Nat.le_of_ble_eq_true rfl)
theorem hL_way : yL_way.cls ≠ "java/lang/invoke/MethodHandle" ∧ yL_way.cls ≠ "java/lang/invoke/VarHandle" ∧ (parseMethodDescriptor yL_way.desc).map (fun d => d.parameters.length) = some 6 := by decide +kernel
theorem hm_way : yX7_way.cls = RX7 ∧ yX7_way.cls ≠ "java/lang/invoke/MethodHandle" ∧ yX7_way.cls ≠ "java/lang/invoke/VarHandle" ∧ (parseMethodDescriptor yX7_way.desc).map (fun d => d.parameters.length) = some 4 := by decide +kernel
set_option maxRecDepth 100000 in
set_option maxHeartbeats 4000000 in
theorem lc_way_t (X : j_X p s m #[Value.ref K.1] meth c code 9 RL wsL_law ret G (j_ty cI cZ cT cB)) (hZ : j_Z K (va_A ([] : va_W) s.heap.size) s s.heap) (hL : K.2.1 = 6) (k : Nat) (hk1 : 1 ≤ k) (hk3 : k ≤ 3) (V : Int32) (hW : jI l G K (j_ty cI cZ cT cB) yL_way wsL_way { frames := 7, cells := 1, slots := 6, locals := 120 } ([(ho, .inl (cB, 1, .inr (.inl (fun _ => 0))))] ++ z_w cI cZ cT o z_S0) [.ref o, .int (K.2.2 1), .int (K.2.2 2), .int (K.2.2 3), .int (K.2.2 4), .ref ho] 1 6 (fun r (u : (Nat → Int64) × zS) => r = nI k) (fun u => [(ho, .inl (cB, 1, .inr (.inl u.1)))] ++ z_w cI cZ cT o u.2)) (hM : jI l G K (j_ty cI cZ cT cB) yX7_way wsX7_way { frames := 3, cells := 0, slots := 0, locals := 66 } (m_w cI cZ ad m_Z0) [.ref (ad 0), .int (K.2.2 1), .int (K.2.2 2), .int (K.2.2 3), .int (K.2.2 4)] 0 0 (fun r (u : mS) => r = V ∧ u 0 0 = nI k) (fun u => m_w cI cZ ad u)) : j_V p l e room_1 s m #[Value.ref K.1] below meth c (lw_Z below #[Value.ref K.1] s) G 9 (va_A ([] : va_W) s.heap.size) 200 20000 (([(ho, .inl (cB, 1, .inr (.inl (fun _ => 0))))] ++ z_w cI cZ cT o z_S0) ++ m_w cI cZ ad m_Z0) 969 [(4, .int (nI 0)), (3, .ref ho), (2, .ref (ad 0)), (1, .ref o), (0, .ref K.1)] [] := by
  have hA := hA_law (s := s)
  refine j_aload_n X 3 dL_law_969 rfl rfl ?_
  refine law_arg X hZ hL 4 0 1 rfl rfl (by decide) (by decide) dL_law_970 dL_law_971 dL_law_973 dL_law_974 dL_law_975 ?_
  refine law_arg X hZ hL 4 0 2 rfl rfl (by decide) (by decide) dL_law_976 dL_law_977 dL_law_979 dL_law_980 dL_law_981 ?_
  refine law_arg X hZ hL 4 0 3 rfl rfl (by decide) (by decide) dL_law_982 dL_law_983 dL_law_985 dL_law_986 dL_law_987 ?_
  refine law_arg X hZ hL 4 0 4 rfl rfl (by decide) (by decide) dL_law_988 dL_law_989 dL_law_991 dL_law_992 dL_law_993 ?_
  refine j_aload_n X 1 dL_law_994 rfl rfl ?_
  refine p_callWI (p := p) (l := l) (e := e) (below := below) (Q := lw_Z below #[Value.ref K.1] s) (R := room_1) (k9 := 200) (q9 := 20000) (pc := 995) (lo := [(4, .int (nI 0)), (3, .ref ho), (2, .ref (ad 0)), (1, .ref o), (0, .ref K.1)]) X hA hZ (rest := []) ([(ho, .inl (cB, 1, .inr (.inl (fun _ => 0))))] ++ z_w cI cZ cT o z_S0) (m_w cI cZ ad m_Z0) (fun u : (Nat → Int64) × zS => ([(ho, .inl (cB, 1, .inr (.inl u.1)))] ++ z_w cI cZ cT o u.2) ++ m_w cI cZ ad m_Z0) (List.Perm.refl _) (fun _ => List.perm_append_comm) [.ref o, .int (K.2.2 1), .int (K.2.2 2), .int (K.2.2 3), .int (K.2.2 4), .ref ho] hW 6 rfl gL_law_L_way rfl ⟨rfl, rfl⟩ hL_way ⟨Nat.le_of_ble_eq_true rfl, Nat.le_of_ble_eq_true rfl⟩ rfl (Nat.le_of_ble_eq_true rfl) ⟨by show 200 + 1 ≤ 600002; omega, by show 20000 + 6 ≤ 7302232; omega⟩ dL_law_995 (fun r9 u9 h9 => ?_)
  replace h9 := h9.symm
  subst h9
  refine j_istore (lo' := [(5, .int (nI k)), (4, .int (nI 0)), (3, .ref ho), (2, .ref (ad 0)), (1, .ref o), (0, .ref K.1)]) X dL_law_998 (by decide) rfl ?_
  refine j_aload_n X 3 dL_law_1000 rfl rfl ?_
  refine law_arg X hZ hL 5 1 1 rfl rfl (by decide) (by decide) dL_law_1001 dL_law_1002 dL_law_1004 dL_law_1005 dL_law_1006 ?_
  refine law_arg X hZ hL 5 1 2 rfl rfl (by decide) (by decide) dL_law_1007 dL_law_1008 dL_law_1010 dL_law_1011 dL_law_1012 ?_
  refine law_arg X hZ hL 5 1 3 rfl rfl (by decide) (by decide) dL_law_1013 dL_law_1014 dL_law_1016 dL_law_1017 dL_law_1018 ?_
  refine law_arg X hZ hL 5 1 4 rfl rfl (by decide) (by decide) dL_law_1019 dL_law_1020 dL_law_1022 dL_law_1023 dL_law_1024 ?_
  refine p_callVI (p := p) (l := l) (e := e) (below := below) (Q := lw_Z below #[Value.ref K.1] s) (R := room_1) (k9 := 200 + 1) (q9 := 20000 + 6) (pc := 1025) (lo := [(5, .int (nI k)), (4, .int (nI 0)), (3, .ref ho), (2, .ref (ad 0)), (1, .ref o), (0, .ref K.1)]) X hA hZ (rest := []) (m_w cI cZ ad m_Z0) ([(ho, .inl (cB, 1, .inr (.inl u9.1)))] ++ z_w cI cZ cT o u9.2) (fun u => ([(ho, .inl (cB, 1, .inr (.inl u9.1)))] ++ z_w cI cZ cT o u9.2) ++ m_w cI cZ ad u) List.perm_append_comm (fun _ => List.Perm.refl _) [.int (K.2.2 1), .int (K.2.2 2), .int (K.2.2 3), .int (K.2.2 4)] 0 rfl rfl hM 4 rfl gL_law_X7_way rfl ⟨rfl, rfl⟩ hm_way ⟨Nat.le_of_ble_eq_true rfl, Nat.le_of_ble_eq_true rfl⟩ rfl (Nat.le_of_ble_eq_true rfl) ⟨by show 200 + 1 + 0 ≤ 600002; omega, by show 20000 + 6 + 0 ≤ 7302232; omega⟩ dL_law_1025 (fun r8 u8 h8 => ?_)
  obtain ⟨h8a, h8b⟩ := h8
  replace h8a := h8a.symm
  subst h8a
  refine j_istore (lo' := [(6, .int V), (5, .int (nI k)), (4, .int (nI 0)), (3, .ref ho), (2, .ref (ad 0)), (1, .ref o), (0, .ref K.1)]) X dL_law_1028 (by decide) rfl ?_
  refine j_aload_n X 4 dL_law_1030 rfl rfl ?_
  refine p_callVI (p := p) (l := l) (e := e) (below := below) (Q := lw_Z below #[Value.ref K.1] s) (R := room_1) (k9 := 200 + 1 + 0) (q9 := 20000 + 6 + 0) (pc := 1031) (lo := [(6, .int V), (5, .int (nI k)), (4, .int (nI 0)), (3, .ref ho), (2, .ref (ad 0)), (1, .ref o), (0, .ref K.1)]) X hA hZ (rest := []) (m_w cI cZ ad u8) ([(ho, .inl (cB, 1, .inr (.inl u9.1)))] ++ z_w cI cZ cT o u9.2) (fun u => ([(ho, .inl (cB, 1, .inr (.inl u9.1)))] ++ z_w cI cZ cT o u9.2) ++ m_w cI cZ ad u) List.perm_append_comm (fun _ => List.Perm.refl _) [] 0 rfl rfl (m_thrown (cI := cI) (cZ := cZ) (cT := cT) (cB := cB) ad u8) 0 rfl gL_law_X7_thrown rfl ⟨rfl, rfl⟩ hm_thrown ⟨Nat.le_of_ble_eq_true rfl, Nat.le_of_ble_eq_true rfl⟩ rfl (Nat.le_of_ble_eq_true rfl) ⟨by show 200 + 1 + 0 + 0 ≤ 600002; omega, by show 20000 + 6 + 0 + 0 ≤ 7302232; omega⟩ dL_law_1031 (fun r7 u7 h7 => ?_)
  refine j_top (y := nI k) (h7.1.trans h8b) ?_
  refine j_iload X 1 dL_law_1034 rfl ?_
  refine j_icmp_eq X (tgt := 1041) dL_law_1036 (by decide) (fun _ => ?_) (fun c9 => absurd rfl c9)
  refine j_iload X 1 dL_law_1041 rfl ?_
  refine j_nif_ne X k rfl (by omega) (tgt := 1058) dL_law_1043 (by decide) (fun _ => ?_) (fun c9 => absurd c9 (by omega))
  refine j_goto X (tgt := 1581) dL_law_1058 (by decide) ?_
  refine j_lo [2, 6] (lo' := [(4, .int (nI 0)), (0, .ref K.1)]) rfl ?_
  exact law_fin X hZ hL (Nat.le_of_ble_eq_true rfl) (Nat.le_of_ble_eq_true rfl)
set_option maxRecDepth 100000 in
set_option maxHeartbeats 4000000 in
theorem lc_way_n (X : j_X p s m #[Value.ref K.1] meth c code 9 RL wsL_law ret G (j_ty cI cZ cT cB)) (hZ : j_Z K (va_A ([] : va_W) s.heap.size) s s.heap) (hL : K.2.1 = 6) (V : Int32) (hW : jI l G K (j_ty cI cZ cT cB) yL_way wsL_way { frames := 5, cells := 0, slots := 0, locals := 120 } ([(ho, .inl (cB, 1, .inr (.inl (fun _ => 0))))] ++ z_w cI cZ cT o z_S0) [.ref o, .int (K.2.2 1), .int (K.2.2 2), .int (K.2.2 3), .int (K.2.2 4), .ref ho] 0 0 (fun r (u : (Nat → Int64) × zS) => r = nI 0 ∧ u.1 0 = V.toInt64) (fun u => [(ho, .inl (cB, 1, .inr (.inl u.1)))] ++ z_w cI cZ cT o u.2)) (hM : jI l G K (j_ty cI cZ cT cB) yX7_way wsX7_way { frames := 3, cells := 0, slots := 0, locals := 66 } (m_w cI cZ ad m_Z0) [.ref (ad 0), .int (K.2.2 1), .int (K.2.2 2), .int (K.2.2 3), .int (K.2.2 4)] 0 0 (fun r (u : mS) => r = V ∧ u 0 0 = nI 0) (fun u => m_w cI cZ ad u)) : j_V p l e room_1 s m #[Value.ref K.1] below meth c (lw_Z below #[Value.ref K.1] s) G 9 (va_A ([] : va_W) s.heap.size) 200 20000 (([(ho, .inl (cB, 1, .inr (.inl (fun _ => 0))))] ++ z_w cI cZ cT o z_S0) ++ m_w cI cZ ad m_Z0) 969 [(4, .int (nI 0)), (3, .ref ho), (2, .ref (ad 0)), (1, .ref o), (0, .ref K.1)] [] := by
  have hA := hA_law (s := s)
  refine j_aload_n X 3 dL_law_969 rfl rfl ?_
  refine law_arg X hZ hL 4 0 1 rfl rfl (by decide) (by decide) dL_law_970 dL_law_971 dL_law_973 dL_law_974 dL_law_975 ?_
  refine law_arg X hZ hL 4 0 2 rfl rfl (by decide) (by decide) dL_law_976 dL_law_977 dL_law_979 dL_law_980 dL_law_981 ?_
  refine law_arg X hZ hL 4 0 3 rfl rfl (by decide) (by decide) dL_law_982 dL_law_983 dL_law_985 dL_law_986 dL_law_987 ?_
  refine law_arg X hZ hL 4 0 4 rfl rfl (by decide) (by decide) dL_law_988 dL_law_989 dL_law_991 dL_law_992 dL_law_993 ?_
  refine j_aload_n X 1 dL_law_994 rfl rfl ?_
  refine p_callWI (p := p) (l := l) (e := e) (below := below) (Q := lw_Z below #[Value.ref K.1] s) (R := room_1) (k9 := 200) (q9 := 20000) (pc := 995) (lo := [(4, .int (nI 0)), (3, .ref ho), (2, .ref (ad 0)), (1, .ref o), (0, .ref K.1)]) X hA hZ (rest := []) ([(ho, .inl (cB, 1, .inr (.inl (fun _ => 0))))] ++ z_w cI cZ cT o z_S0) (m_w cI cZ ad m_Z0) (fun u : (Nat → Int64) × zS => ([(ho, .inl (cB, 1, .inr (.inl u.1)))] ++ z_w cI cZ cT o u.2) ++ m_w cI cZ ad m_Z0) (List.Perm.refl _) (fun _ => List.perm_append_comm) [.ref o, .int (K.2.2 1), .int (K.2.2 2), .int (K.2.2 3), .int (K.2.2 4), .ref ho] hW 6 rfl gL_law_L_way rfl ⟨rfl, rfl⟩ hL_way ⟨Nat.le_of_ble_eq_true rfl, Nat.le_of_ble_eq_true rfl⟩ rfl (Nat.le_of_ble_eq_true rfl) ⟨by show 200 + 0 ≤ 600002; omega, by show 20000 + 0 ≤ 7302232; omega⟩ dL_law_995 (fun r9 u9 h9 => ?_)
  obtain ⟨h9a, h9b⟩ := h9
  replace h9a := h9a.symm
  subst h9a
  refine j_istore (lo' := [(5, .int (nI 0)), (4, .int (nI 0)), (3, .ref ho), (2, .ref (ad 0)), (1, .ref o), (0, .ref K.1)]) X dL_law_998 (by decide) rfl ?_
  refine j_aload_n X 3 dL_law_1000 rfl rfl ?_
  refine law_arg X hZ hL 5 1 1 rfl rfl (by decide) (by decide) dL_law_1001 dL_law_1002 dL_law_1004 dL_law_1005 dL_law_1006 ?_
  refine law_arg X hZ hL 5 1 2 rfl rfl (by decide) (by decide) dL_law_1007 dL_law_1008 dL_law_1010 dL_law_1011 dL_law_1012 ?_
  refine law_arg X hZ hL 5 1 3 rfl rfl (by decide) (by decide) dL_law_1013 dL_law_1014 dL_law_1016 dL_law_1017 dL_law_1018 ?_
  refine law_arg X hZ hL 5 1 4 rfl rfl (by decide) (by decide) dL_law_1019 dL_law_1020 dL_law_1022 dL_law_1023 dL_law_1024 ?_
  refine p_callVI (p := p) (l := l) (e := e) (below := below) (Q := lw_Z below #[Value.ref K.1] s) (R := room_1) (k9 := 200 + 0) (q9 := 20000 + 0) (pc := 1025) (lo := [(5, .int (nI 0)), (4, .int (nI 0)), (3, .ref ho), (2, .ref (ad 0)), (1, .ref o), (0, .ref K.1)]) X hA hZ (rest := []) (m_w cI cZ ad m_Z0) ([(ho, .inl (cB, 1, .inr (.inl u9.1)))] ++ z_w cI cZ cT o u9.2) (fun u => ([(ho, .inl (cB, 1, .inr (.inl u9.1)))] ++ z_w cI cZ cT o u9.2) ++ m_w cI cZ ad u) List.perm_append_comm (fun _ => List.Perm.refl _) [.int (K.2.2 1), .int (K.2.2 2), .int (K.2.2 3), .int (K.2.2 4)] 0 rfl rfl hM 4 rfl gL_law_X7_way rfl ⟨rfl, rfl⟩ hm_way ⟨Nat.le_of_ble_eq_true rfl, Nat.le_of_ble_eq_true rfl⟩ rfl (Nat.le_of_ble_eq_true rfl) ⟨by show 200 + 0 + 0 ≤ 600002; omega, by show 20000 + 0 + 0 ≤ 7302232; omega⟩ dL_law_1025 (fun r8 u8 h8 => ?_)
  obtain ⟨h8a, h8b⟩ := h8
  replace h8a := h8a.symm
  subst h8a
  refine j_istore (lo' := [(6, .int V), (5, .int (nI 0)), (4, .int (nI 0)), (3, .ref ho), (2, .ref (ad 0)), (1, .ref o), (0, .ref K.1)]) X dL_law_1028 (by decide) rfl ?_
  refine j_aload_n X 4 dL_law_1030 rfl rfl ?_
  refine p_callVI (p := p) (l := l) (e := e) (below := below) (Q := lw_Z below #[Value.ref K.1] s) (R := room_1) (k9 := 200 + 0 + 0) (q9 := 20000 + 0 + 0) (pc := 1031) (lo := [(6, .int V), (5, .int (nI 0)), (4, .int (nI 0)), (3, .ref ho), (2, .ref (ad 0)), (1, .ref o), (0, .ref K.1)]) X hA hZ (rest := []) (m_w cI cZ ad u8) ([(ho, .inl (cB, 1, .inr (.inl u9.1)))] ++ z_w cI cZ cT o u9.2) (fun u => ([(ho, .inl (cB, 1, .inr (.inl u9.1)))] ++ z_w cI cZ cT o u9.2) ++ m_w cI cZ ad u) List.perm_append_comm (fun _ => List.Perm.refl _) [] 0 rfl rfl (m_thrown (cI := cI) (cZ := cZ) (cT := cT) (cB := cB) ad u8) 0 rfl gL_law_X7_thrown rfl ⟨rfl, rfl⟩ hm_thrown ⟨Nat.le_of_ble_eq_true rfl, Nat.le_of_ble_eq_true rfl⟩ rfl (Nat.le_of_ble_eq_true rfl) ⟨by show 200 + 0 + 0 + 0 ≤ 600002; omega, by show 20000 + 0 + 0 + 0 ≤ 7302232; omega⟩ dL_law_1031 (fun r7 u7 h7 => ?_)
  refine j_top (y := nI 0) (h7.1.trans h8b) ?_
  refine j_iload X 1 dL_law_1034 rfl ?_
  refine j_icmp_eq X (tgt := 1041) dL_law_1036 (by decide) (fun _ => ?_) (fun c9 => absurd rfl c9)
  refine j_iload X 1 dL_law_1041 rfl ?_
  refine j_nif_ne X 0 rfl (by omega) (tgt := 1058) dL_law_1043 (by decide) (fun c9 => absurd rfl c9) (fun _ => ?_)
  refine j_aload_n X 3 dL_law_1046 rfl rfl ?_
  refine j_iconst (v := nI 0) X (by decide) dL_law_1047 ?_
  refine j_lald X 0 3 rfl rfl 0 rfl (by decide) (by decide) dL_law_1048 ?_
  refine j_iload X 0 dL_law_1049 rfl ?_
  refine j_i2l X dL_law_1051 ?_
  refine j_lcmp X dL_law_1052 ?_
  refine j_if_eq X (tgt := 1058) dL_law_1053 (by decide) (fun _ => ?_) (fun c9 => absurd (by rw [h9b]; exact cmp_self _) c9)
  refine j_goto X (tgt := 1581) dL_law_1058 (by decide) ?_
  refine j_lo [2, 6] (lo' := [(4, .int (nI 0)), (0, .ref K.1)]) rfl ?_
  exact law_fin X hZ hL (Nat.le_of_ble_eq_true rfl) (Nat.le_of_ble_eq_true rfl)
theorem hL_reach : yL_reach.cls ≠ "java/lang/invoke/MethodHandle" ∧ yL_reach.cls ≠ "java/lang/invoke/VarHandle" ∧ (parseMethodDescriptor yL_reach.desc).map (fun d => d.parameters.length) = some 5 := by decide +kernel
theorem hm_reach : yX7_reach.cls = RX7 ∧ yX7_reach.cls ≠ "java/lang/invoke/MethodHandle" ∧ yX7_reach.cls ≠ "java/lang/invoke/VarHandle" ∧ (parseMethodDescriptor yX7_reach.desc).map (fun d => d.parameters.length) = some 3 := by decide +kernel
set_option maxRecDepth 100000 in
set_option maxHeartbeats 4000000 in
theorem lc_reach_t (X : j_X p s m #[Value.ref K.1] meth c code 9 RL wsL_law ret G (j_ty cI cZ cT cB)) (hZ : j_Z K (va_A ([] : va_W) s.heap.size) s s.heap) (hL : K.2.1 = 6) (k : Nat) (hk1 : 1 ≤ k) (hk3 : k ≤ 3) (V : Int32) (hW : jI l G K (j_ty cI cZ cT cB) yL_reach wsL_reach { frames := 7, cells := 1, slots := 6, locals := 118 } ([(ho, .inl (cB, 1, .inr (.inl (fun _ => 0))))] ++ z_w cI cZ cT o z_S0) [.ref o, .int (K.2.2 1), .int (K.2.2 2), .int (K.2.2 3), .ref ho] 1 6 (fun r (u : (Nat → Int64) × zS) => r = nI k) (fun u => [(ho, .inl (cB, 1, .inr (.inl u.1)))] ++ z_w cI cZ cT o u.2)) (hM : jI l G K (j_ty cI cZ cT cB) yX7_reach wsX7_reach { frames := 4, cells := 0, slots := 0, locals := 93 } (m_w cI cZ ad m_Z0) [.ref (ad 0), .int (K.2.2 1), .int (K.2.2 2), .int (K.2.2 3)] 0 0 (fun r (u : mS) => r = V ∧ u 0 0 = nI k) (fun u => m_w cI cZ ad u)) : j_V p l e room_1 s m #[Value.ref K.1] below meth c (lw_Z below #[Value.ref K.1] s) G 9 (va_A ([] : va_W) s.heap.size) 200 20000 (([(ho, .inl (cB, 1, .inr (.inl (fun _ => 0))))] ++ z_w cI cZ cT o z_S0) ++ m_w cI cZ ad m_Z0) 1061 [(4, .int (nI 0)), (3, .ref ho), (2, .ref (ad 0)), (1, .ref o), (0, .ref K.1)] [] := by
  have hA := hA_law (s := s)
  refine j_aload_n X 3 dL_law_1061 rfl rfl ?_
  refine law_arg X hZ hL 4 0 1 rfl rfl (by decide) (by decide) dL_law_1062 dL_law_1063 dL_law_1065 dL_law_1066 dL_law_1067 ?_
  refine law_arg X hZ hL 4 0 2 rfl rfl (by decide) (by decide) dL_law_1068 dL_law_1069 dL_law_1071 dL_law_1072 dL_law_1073 ?_
  refine law_arg X hZ hL 4 0 3 rfl rfl (by decide) (by decide) dL_law_1074 dL_law_1075 dL_law_1077 dL_law_1078 dL_law_1079 ?_
  refine j_aload_n X 1 dL_law_1080 rfl rfl ?_
  refine p_callWI (p := p) (l := l) (e := e) (below := below) (Q := lw_Z below #[Value.ref K.1] s) (R := room_1) (k9 := 200) (q9 := 20000) (pc := 1081) (lo := [(4, .int (nI 0)), (3, .ref ho), (2, .ref (ad 0)), (1, .ref o), (0, .ref K.1)]) X hA hZ (rest := []) ([(ho, .inl (cB, 1, .inr (.inl (fun _ => 0))))] ++ z_w cI cZ cT o z_S0) (m_w cI cZ ad m_Z0) (fun u : (Nat → Int64) × zS => ([(ho, .inl (cB, 1, .inr (.inl u.1)))] ++ z_w cI cZ cT o u.2) ++ m_w cI cZ ad m_Z0) (List.Perm.refl _) (fun _ => List.perm_append_comm) [.ref o, .int (K.2.2 1), .int (K.2.2 2), .int (K.2.2 3), .ref ho] hW 5 rfl gL_law_L_reach rfl ⟨rfl, rfl⟩ hL_reach ⟨Nat.le_of_ble_eq_true rfl, Nat.le_of_ble_eq_true rfl⟩ rfl (Nat.le_of_ble_eq_true rfl) ⟨by show 200 + 1 ≤ 600002; omega, by show 20000 + 6 ≤ 7302232; omega⟩ dL_law_1081 (fun r9 u9 h9 => ?_)
  replace h9 := h9.symm
  subst h9
  refine j_istore (lo' := [(5, .int (nI k)), (4, .int (nI 0)), (3, .ref ho), (2, .ref (ad 0)), (1, .ref o), (0, .ref K.1)]) X dL_law_1084 (by decide) rfl ?_
  refine j_aload_n X 3 dL_law_1086 rfl rfl ?_
  refine law_arg X hZ hL 5 1 1 rfl rfl (by decide) (by decide) dL_law_1087 dL_law_1088 dL_law_1090 dL_law_1091 dL_law_1092 ?_
  refine law_arg X hZ hL 5 1 2 rfl rfl (by decide) (by decide) dL_law_1093 dL_law_1094 dL_law_1096 dL_law_1097 dL_law_1098 ?_
  refine law_arg X hZ hL 5 1 3 rfl rfl (by decide) (by decide) dL_law_1099 dL_law_1100 dL_law_1102 dL_law_1103 dL_law_1104 ?_
  refine p_callVI (p := p) (l := l) (e := e) (below := below) (Q := lw_Z below #[Value.ref K.1] s) (R := room_1) (k9 := 200 + 1) (q9 := 20000 + 6) (pc := 1105) (lo := [(5, .int (nI k)), (4, .int (nI 0)), (3, .ref ho), (2, .ref (ad 0)), (1, .ref o), (0, .ref K.1)]) X hA hZ (rest := []) (m_w cI cZ ad m_Z0) ([(ho, .inl (cB, 1, .inr (.inl u9.1)))] ++ z_w cI cZ cT o u9.2) (fun u => ([(ho, .inl (cB, 1, .inr (.inl u9.1)))] ++ z_w cI cZ cT o u9.2) ++ m_w cI cZ ad u) List.perm_append_comm (fun _ => List.Perm.refl _) [.int (K.2.2 1), .int (K.2.2 2), .int (K.2.2 3)] 0 rfl rfl hM 3 rfl gL_law_X7_reach rfl ⟨rfl, rfl⟩ hm_reach ⟨Nat.le_of_ble_eq_true rfl, Nat.le_of_ble_eq_true rfl⟩ rfl (Nat.le_of_ble_eq_true rfl) ⟨by show 200 + 1 + 0 ≤ 600002; omega, by show 20000 + 6 + 0 ≤ 7302232; omega⟩ dL_law_1105 (fun r8 u8 h8 => ?_)
  obtain ⟨h8a, h8b⟩ := h8
  replace h8a := h8a.symm
  subst h8a
  refine j_istore (lo' := [(6, .int V), (5, .int (nI k)), (4, .int (nI 0)), (3, .ref ho), (2, .ref (ad 0)), (1, .ref o), (0, .ref K.1)]) X dL_law_1108 (by decide) rfl ?_
  refine j_aload_n X 4 dL_law_1110 rfl rfl ?_
  refine p_callVI (p := p) (l := l) (e := e) (below := below) (Q := lw_Z below #[Value.ref K.1] s) (R := room_1) (k9 := 200 + 1 + 0) (q9 := 20000 + 6 + 0) (pc := 1111) (lo := [(6, .int V), (5, .int (nI k)), (4, .int (nI 0)), (3, .ref ho), (2, .ref (ad 0)), (1, .ref o), (0, .ref K.1)]) X hA hZ (rest := []) (m_w cI cZ ad u8) ([(ho, .inl (cB, 1, .inr (.inl u9.1)))] ++ z_w cI cZ cT o u9.2) (fun u => ([(ho, .inl (cB, 1, .inr (.inl u9.1)))] ++ z_w cI cZ cT o u9.2) ++ m_w cI cZ ad u) List.perm_append_comm (fun _ => List.Perm.refl _) [] 0 rfl rfl (m_thrown (cI := cI) (cZ := cZ) (cT := cT) (cB := cB) ad u8) 0 rfl gL_law_X7_thrown rfl ⟨rfl, rfl⟩ hm_thrown ⟨Nat.le_of_ble_eq_true rfl, Nat.le_of_ble_eq_true rfl⟩ rfl (Nat.le_of_ble_eq_true rfl) ⟨by show 200 + 1 + 0 + 0 ≤ 600002; omega, by show 20000 + 6 + 0 + 0 ≤ 7302232; omega⟩ dL_law_1111 (fun r7 u7 h7 => ?_)
  refine j_top (y := nI k) (h7.1.trans h8b) ?_
  refine j_iload X 1 dL_law_1114 rfl ?_
  refine j_icmp_eq X (tgt := 1121) dL_law_1116 (by decide) (fun _ => ?_) (fun c9 => absurd rfl c9)
  refine j_iload X 1 dL_law_1121 rfl ?_
  refine j_nif_ne X k rfl (by omega) (tgt := 1138) dL_law_1123 (by decide) (fun _ => ?_) (fun c9 => absurd c9 (by omega))
  refine j_goto X (tgt := 1581) dL_law_1138 (by decide) ?_
  refine j_lo [2, 6] (lo' := [(4, .int (nI 0)), (0, .ref K.1)]) rfl ?_
  exact law_fin X hZ hL (Nat.le_of_ble_eq_true rfl) (Nat.le_of_ble_eq_true rfl)
theorem hL_target : yL_target.cls ≠ "java/lang/invoke/MethodHandle" ∧ yL_target.cls ≠ "java/lang/invoke/VarHandle" ∧ (parseMethodDescriptor yL_target.desc).map (fun d => d.parameters.length) = some 3 := by decide +kernel
theorem hm_target : yX7_target.cls = RX7 ∧ yX7_target.cls ≠ "java/lang/invoke/MethodHandle" ∧ yX7_target.cls ≠ "java/lang/invoke/VarHandle" ∧ (parseMethodDescriptor yX7_target.desc).map (fun d => d.parameters.length) = some 1 := by decide +kernel
set_option maxRecDepth 100000 in
set_option maxHeartbeats 4000000 in
theorem lc_target_t (X : j_X p s m #[Value.ref K.1] meth c code 9 RL wsL_law ret G (j_ty cI cZ cT cB)) (hZ : j_Z K (va_A ([] : va_W) s.heap.size) s s.heap) (hL : K.2.1 = 6) (k : Nat) (hk1 : 1 ≤ k) (hk3 : k ≤ 3) (V : Int32) (hW : jI l G K (j_ty cI cZ cT cB) yL_target wsL_target { frames := 7, cells := 1, slots := 6, locals := 116 } ([(ho, .inl (cB, 1, .inr (.inl (fun _ => 0))))] ++ z_w cI cZ cT o z_S0) [.ref o, .int (K.2.2 1), .ref ho] 1 6 (fun r (u : (Nat → Int64) × zS) => r = nI k) (fun u => [(ho, .inl (cB, 1, .inr (.inl u.1)))] ++ z_w cI cZ cT o u.2)) (hM : jI l G K (j_ty cI cZ cT cB) yX7_target wsX7_target { frames := 4, cells := 0, slots := 0, locals := 93 } (m_w cI cZ ad m_Z0) [.ref (ad 0), .int (K.2.2 1)] 0 0 (fun r (u : mS) => r = V ∧ u 0 0 = nI k) (fun u => m_w cI cZ ad u)) : j_V p l e room_1 s m #[Value.ref K.1] below meth c (lw_Z below #[Value.ref K.1] s) G 9 (va_A ([] : va_W) s.heap.size) 200 20000 (([(ho, .inl (cB, 1, .inr (.inl (fun _ => 0))))] ++ z_w cI cZ cT o z_S0) ++ m_w cI cZ ad m_Z0) 1141 [(4, .int (nI 0)), (3, .ref ho), (2, .ref (ad 0)), (1, .ref o), (0, .ref K.1)] [] := by
  have hA := hA_law (s := s)
  refine j_aload_n X 3 dL_law_1141 rfl rfl ?_
  refine law_arg X hZ hL 4 0 1 rfl rfl (by decide) (by decide) dL_law_1142 dL_law_1143 dL_law_1145 dL_law_1146 dL_law_1147 ?_
  refine j_aload_n X 1 dL_law_1148 rfl rfl ?_
  refine p_callWI (p := p) (l := l) (e := e) (below := below) (Q := lw_Z below #[Value.ref K.1] s) (R := room_1) (k9 := 200) (q9 := 20000) (pc := 1149) (lo := [(4, .int (nI 0)), (3, .ref ho), (2, .ref (ad 0)), (1, .ref o), (0, .ref K.1)]) X hA hZ (rest := []) ([(ho, .inl (cB, 1, .inr (.inl (fun _ => 0))))] ++ z_w cI cZ cT o z_S0) (m_w cI cZ ad m_Z0) (fun u : (Nat → Int64) × zS => ([(ho, .inl (cB, 1, .inr (.inl u.1)))] ++ z_w cI cZ cT o u.2) ++ m_w cI cZ ad m_Z0) (List.Perm.refl _) (fun _ => List.perm_append_comm) [.ref o, .int (K.2.2 1), .ref ho] hW 3 rfl gL_law_L_target rfl ⟨rfl, rfl⟩ hL_target ⟨Nat.le_of_ble_eq_true rfl, Nat.le_of_ble_eq_true rfl⟩ rfl (Nat.le_of_ble_eq_true rfl) ⟨by show 200 + 1 ≤ 600002; omega, by show 20000 + 6 ≤ 7302232; omega⟩ dL_law_1149 (fun r9 u9 h9 => ?_)
  replace h9 := h9.symm
  subst h9
  refine j_istore (lo' := [(5, .int (nI k)), (4, .int (nI 0)), (3, .ref ho), (2, .ref (ad 0)), (1, .ref o), (0, .ref K.1)]) X dL_law_1152 (by decide) rfl ?_
  refine j_aload_n X 3 dL_law_1154 rfl rfl ?_
  refine law_arg X hZ hL 5 1 1 rfl rfl (by decide) (by decide) dL_law_1155 dL_law_1156 dL_law_1158 dL_law_1159 dL_law_1160 ?_
  refine p_callVI (p := p) (l := l) (e := e) (below := below) (Q := lw_Z below #[Value.ref K.1] s) (R := room_1) (k9 := 200 + 1) (q9 := 20000 + 6) (pc := 1161) (lo := [(5, .int (nI k)), (4, .int (nI 0)), (3, .ref ho), (2, .ref (ad 0)), (1, .ref o), (0, .ref K.1)]) X hA hZ (rest := []) (m_w cI cZ ad m_Z0) ([(ho, .inl (cB, 1, .inr (.inl u9.1)))] ++ z_w cI cZ cT o u9.2) (fun u => ([(ho, .inl (cB, 1, .inr (.inl u9.1)))] ++ z_w cI cZ cT o u9.2) ++ m_w cI cZ ad u) List.perm_append_comm (fun _ => List.Perm.refl _) [.int (K.2.2 1)] 0 rfl rfl hM 1 rfl gL_law_X7_target rfl ⟨rfl, rfl⟩ hm_target ⟨Nat.le_of_ble_eq_true rfl, Nat.le_of_ble_eq_true rfl⟩ rfl (Nat.le_of_ble_eq_true rfl) ⟨by show 200 + 1 + 0 ≤ 600002; omega, by show 20000 + 6 + 0 ≤ 7302232; omega⟩ dL_law_1161 (fun r8 u8 h8 => ?_)
  obtain ⟨h8a, h8b⟩ := h8
  replace h8a := h8a.symm
  subst h8a
  refine j_istore (lo' := [(6, .int V), (5, .int (nI k)), (4, .int (nI 0)), (3, .ref ho), (2, .ref (ad 0)), (1, .ref o), (0, .ref K.1)]) X dL_law_1164 (by decide) rfl ?_
  refine j_aload_n X 4 dL_law_1166 rfl rfl ?_
  refine p_callVI (p := p) (l := l) (e := e) (below := below) (Q := lw_Z below #[Value.ref K.1] s) (R := room_1) (k9 := 200 + 1 + 0) (q9 := 20000 + 6 + 0) (pc := 1167) (lo := [(6, .int V), (5, .int (nI k)), (4, .int (nI 0)), (3, .ref ho), (2, .ref (ad 0)), (1, .ref o), (0, .ref K.1)]) X hA hZ (rest := []) (m_w cI cZ ad u8) ([(ho, .inl (cB, 1, .inr (.inl u9.1)))] ++ z_w cI cZ cT o u9.2) (fun u => ([(ho, .inl (cB, 1, .inr (.inl u9.1)))] ++ z_w cI cZ cT o u9.2) ++ m_w cI cZ ad u) List.perm_append_comm (fun _ => List.Perm.refl _) [] 0 rfl rfl (m_thrown (cI := cI) (cZ := cZ) (cT := cT) (cB := cB) ad u8) 0 rfl gL_law_X7_thrown rfl ⟨rfl, rfl⟩ hm_thrown ⟨Nat.le_of_ble_eq_true rfl, Nat.le_of_ble_eq_true rfl⟩ rfl (Nat.le_of_ble_eq_true rfl) ⟨by show 200 + 1 + 0 + 0 ≤ 600002; omega, by show 20000 + 6 + 0 + 0 ≤ 7302232; omega⟩ dL_law_1167 (fun r7 u7 h7 => ?_)
  refine j_top (y := nI k) (h7.1.trans h8b) ?_
  refine j_iload X 1 dL_law_1170 rfl ?_
  refine j_icmp_eq X (tgt := 1177) dL_law_1172 (by decide) (fun _ => ?_) (fun c9 => absurd rfl c9)
  refine j_iload X 1 dL_law_1177 rfl ?_
  refine j_nif_ne X k rfl (by omega) (tgt := 1194) dL_law_1179 (by decide) (fun _ => ?_) (fun c9 => absurd c9 (by omega))
  refine j_goto X (tgt := 1581) dL_law_1194 (by decide) ?_
  refine j_lo [2, 6] (lo' := [(4, .int (nI 0)), (0, .ref K.1)]) rfl ?_
  exact law_fin X hZ hL (Nat.le_of_ble_eq_true rfl) (Nat.le_of_ble_eq_true rfl)
theorem hL_foresee : yL_foresee.cls ≠ "java/lang/invoke/MethodHandle" ∧ yL_foresee.cls ≠ "java/lang/invoke/VarHandle" ∧ (parseMethodDescriptor yL_foresee.desc).map (fun d => d.parameters.length) = some 4 := by decide +kernel
theorem hm_foresee : yX7_foresee.cls = RX7 ∧ yX7_foresee.cls ≠ "java/lang/invoke/MethodHandle" ∧ yX7_foresee.cls ≠ "java/lang/invoke/VarHandle" ∧ (parseMethodDescriptor yX7_foresee.desc).map (fun d => d.parameters.length) = some 2 := by decide +kernel
set_option maxRecDepth 100000 in
set_option maxHeartbeats 4000000 in
theorem lc_foresee_t (X : j_X p s m #[Value.ref K.1] meth c code 9 RL wsL_law ret G (j_ty cI cZ cT cB)) (hZ : j_Z K (va_A ([] : va_W) s.heap.size) s s.heap) (hL : K.2.1 = 6) (k : Nat) (hk1 : 1 ≤ k) (hk3 : k ≤ 3) (V : Int32) (hW : jI l G K (j_ty cI cZ cT cB) yL_foresee wsL_foresee { frames := 7, cells := 1, slots := 6, locals := 157 } ([(ho, .inl (cB, 1, .inr (.inl (fun _ => 0))))] ++ z_w cI cZ cT o z_S0) [.ref o, .int (K.2.2 1), .int (K.2.2 2), .ref ho] 1 6 (fun r (u : (Nat → Int64) × zS) => r = nI k) (fun u => [(ho, .inl (cB, 1, .inr (.inl u.1)))] ++ z_w cI cZ cT o u.2)) (hM : jI l G K (j_ty cI cZ cT cB) yX7_foresee wsX7_foresee { frames := 8, cells := 0, slots := 0, locals := 187 } (m_w cI cZ ad m_Z0) [.ref (ad 0), .int (K.2.2 1), .int (K.2.2 2)] 0 0 (fun r (u : mS) => r = V ∧ u 0 0 = nI k) (fun u => m_w cI cZ ad u)) : j_V p l e room_1 s m #[Value.ref K.1] below meth c (lw_Z below #[Value.ref K.1] s) G 9 (va_A ([] : va_W) s.heap.size) 200 20000 (([(ho, .inl (cB, 1, .inr (.inl (fun _ => 0))))] ++ z_w cI cZ cT o z_S0) ++ m_w cI cZ ad m_Z0) 1197 [(4, .int (nI 0)), (3, .ref ho), (2, .ref (ad 0)), (1, .ref o), (0, .ref K.1)] [] := by
  have hA := hA_law (s := s)
  refine j_aload_n X 3 dL_law_1197 rfl rfl ?_
  refine law_arg X hZ hL 4 0 1 rfl rfl (by decide) (by decide) dL_law_1198 dL_law_1199 dL_law_1201 dL_law_1202 dL_law_1203 ?_
  refine law_arg X hZ hL 4 0 2 rfl rfl (by decide) (by decide) dL_law_1204 dL_law_1205 dL_law_1207 dL_law_1208 dL_law_1209 ?_
  refine j_aload_n X 1 dL_law_1210 rfl rfl ?_
  refine p_callWI (p := p) (l := l) (e := e) (below := below) (Q := lw_Z below #[Value.ref K.1] s) (R := room_1) (k9 := 200) (q9 := 20000) (pc := 1211) (lo := [(4, .int (nI 0)), (3, .ref ho), (2, .ref (ad 0)), (1, .ref o), (0, .ref K.1)]) X hA hZ (rest := []) ([(ho, .inl (cB, 1, .inr (.inl (fun _ => 0))))] ++ z_w cI cZ cT o z_S0) (m_w cI cZ ad m_Z0) (fun u : (Nat → Int64) × zS => ([(ho, .inl (cB, 1, .inr (.inl u.1)))] ++ z_w cI cZ cT o u.2) ++ m_w cI cZ ad m_Z0) (List.Perm.refl _) (fun _ => List.perm_append_comm) [.ref o, .int (K.2.2 1), .int (K.2.2 2), .ref ho] hW 4 rfl gL_law_L_foresee rfl ⟨rfl, rfl⟩ hL_foresee ⟨Nat.le_of_ble_eq_true rfl, Nat.le_of_ble_eq_true rfl⟩ rfl (Nat.le_of_ble_eq_true rfl) ⟨by show 200 + 1 ≤ 600002; omega, by show 20000 + 6 ≤ 7302232; omega⟩ dL_law_1211 (fun r9 u9 h9 => ?_)
  replace h9 := h9.symm
  subst h9
  refine j_istore (lo' := [(5, .int (nI k)), (4, .int (nI 0)), (3, .ref ho), (2, .ref (ad 0)), (1, .ref o), (0, .ref K.1)]) X dL_law_1214 (by decide) rfl ?_
  refine j_aload_n X 3 dL_law_1216 rfl rfl ?_
  refine law_arg X hZ hL 5 1 1 rfl rfl (by decide) (by decide) dL_law_1217 dL_law_1218 dL_law_1220 dL_law_1221 dL_law_1222 ?_
  refine law_arg X hZ hL 5 1 2 rfl rfl (by decide) (by decide) dL_law_1223 dL_law_1224 dL_law_1226 dL_law_1227 dL_law_1228 ?_
  refine p_callVI (p := p) (l := l) (e := e) (below := below) (Q := lw_Z below #[Value.ref K.1] s) (R := room_1) (k9 := 200 + 1) (q9 := 20000 + 6) (pc := 1229) (lo := [(5, .int (nI k)), (4, .int (nI 0)), (3, .ref ho), (2, .ref (ad 0)), (1, .ref o), (0, .ref K.1)]) X hA hZ (rest := []) (m_w cI cZ ad m_Z0) ([(ho, .inl (cB, 1, .inr (.inl u9.1)))] ++ z_w cI cZ cT o u9.2) (fun u => ([(ho, .inl (cB, 1, .inr (.inl u9.1)))] ++ z_w cI cZ cT o u9.2) ++ m_w cI cZ ad u) List.perm_append_comm (fun _ => List.Perm.refl _) [.int (K.2.2 1), .int (K.2.2 2)] 0 rfl rfl hM 2 rfl gL_law_X7_foresee rfl ⟨rfl, rfl⟩ hm_foresee ⟨Nat.le_of_ble_eq_true rfl, Nat.le_of_ble_eq_true rfl⟩ rfl (Nat.le_of_ble_eq_true rfl) ⟨by show 200 + 1 + 0 ≤ 600002; omega, by show 20000 + 6 + 0 ≤ 7302232; omega⟩ dL_law_1229 (fun r8 u8 h8 => ?_)
  obtain ⟨h8a, h8b⟩ := h8
  replace h8a := h8a.symm
  subst h8a
  refine j_istore (lo' := [(6, .int V), (5, .int (nI k)), (4, .int (nI 0)), (3, .ref ho), (2, .ref (ad 0)), (1, .ref o), (0, .ref K.1)]) X dL_law_1232 (by decide) rfl ?_
  refine j_aload_n X 4 dL_law_1234 rfl rfl ?_
  refine p_callVI (p := p) (l := l) (e := e) (below := below) (Q := lw_Z below #[Value.ref K.1] s) (R := room_1) (k9 := 200 + 1 + 0) (q9 := 20000 + 6 + 0) (pc := 1235) (lo := [(6, .int V), (5, .int (nI k)), (4, .int (nI 0)), (3, .ref ho), (2, .ref (ad 0)), (1, .ref o), (0, .ref K.1)]) X hA hZ (rest := []) (m_w cI cZ ad u8) ([(ho, .inl (cB, 1, .inr (.inl u9.1)))] ++ z_w cI cZ cT o u9.2) (fun u => ([(ho, .inl (cB, 1, .inr (.inl u9.1)))] ++ z_w cI cZ cT o u9.2) ++ m_w cI cZ ad u) List.perm_append_comm (fun _ => List.Perm.refl _) [] 0 rfl rfl (m_thrown (cI := cI) (cZ := cZ) (cT := cT) (cB := cB) ad u8) 0 rfl gL_law_X7_thrown rfl ⟨rfl, rfl⟩ hm_thrown ⟨Nat.le_of_ble_eq_true rfl, Nat.le_of_ble_eq_true rfl⟩ rfl (Nat.le_of_ble_eq_true rfl) ⟨by show 200 + 1 + 0 + 0 ≤ 600002; omega, by show 20000 + 6 + 0 + 0 ≤ 7302232; omega⟩ dL_law_1235 (fun r7 u7 h7 => ?_)
  refine j_top (y := nI k) (h7.1.trans h8b) ?_
  refine j_iload X 1 dL_law_1238 rfl ?_
  refine j_icmp_eq X (tgt := 1245) dL_law_1240 (by decide) (fun _ => ?_) (fun c9 => absurd rfl c9)
  refine j_iload X 1 dL_law_1245 rfl ?_
  refine j_nif_ne X k rfl (by omega) (tgt := 1262) dL_law_1247 (by decide) (fun _ => ?_) (fun c9 => absurd c9 (by omega))
  refine j_goto X (tgt := 1581) dL_law_1262 (by decide) ?_
  refine j_lo [2, 6] (lo' := [(4, .int (nI 0)), (0, .ref K.1)]) rfl ?_
  exact law_fin X hZ hL (Nat.le_of_ble_eq_true rfl) (Nat.le_of_ble_eq_true rfl)
set_option maxRecDepth 100000 in
set_option maxHeartbeats 4000000 in
theorem lc_foresee_n (X : j_X p s m #[Value.ref K.1] meth c code 9 RL wsL_law ret G (j_ty cI cZ cT cB)) (hZ : j_Z K (va_A ([] : va_W) s.heap.size) s s.heap) (hL : K.2.1 = 6) (V : Int32) (hW : jI l G K (j_ty cI cZ cT cB) yL_foresee wsL_foresee { frames := 7, cells := 0, slots := 0, locals := 157 } ([(ho, .inl (cB, 1, .inr (.inl (fun _ => 0))))] ++ z_w cI cZ cT o z_S0) [.ref o, .int (K.2.2 1), .int (K.2.2 2), .ref ho] 0 0 (fun r (u : (Nat → Int64) × zS) => r = nI 0 ∧ u.1 0 = V.toInt64) (fun u => [(ho, .inl (cB, 1, .inr (.inl u.1)))] ++ z_w cI cZ cT o u.2)) (hM : jI l G K (j_ty cI cZ cT cB) yX7_foresee wsX7_foresee { frames := 8, cells := 0, slots := 0, locals := 187 } (m_w cI cZ ad m_Z0) [.ref (ad 0), .int (K.2.2 1), .int (K.2.2 2)] 0 0 (fun r (u : mS) => r = V ∧ u 0 0 = nI 0) (fun u => m_w cI cZ ad u)) : j_V p l e room_1 s m #[Value.ref K.1] below meth c (lw_Z below #[Value.ref K.1] s) G 9 (va_A ([] : va_W) s.heap.size) 200 20000 (([(ho, .inl (cB, 1, .inr (.inl (fun _ => 0))))] ++ z_w cI cZ cT o z_S0) ++ m_w cI cZ ad m_Z0) 1197 [(4, .int (nI 0)), (3, .ref ho), (2, .ref (ad 0)), (1, .ref o), (0, .ref K.1)] [] := by
  have hA := hA_law (s := s)
  refine j_aload_n X 3 dL_law_1197 rfl rfl ?_
  refine law_arg X hZ hL 4 0 1 rfl rfl (by decide) (by decide) dL_law_1198 dL_law_1199 dL_law_1201 dL_law_1202 dL_law_1203 ?_
  refine law_arg X hZ hL 4 0 2 rfl rfl (by decide) (by decide) dL_law_1204 dL_law_1205 dL_law_1207 dL_law_1208 dL_law_1209 ?_
  refine j_aload_n X 1 dL_law_1210 rfl rfl ?_
  refine p_callWI (p := p) (l := l) (e := e) (below := below) (Q := lw_Z below #[Value.ref K.1] s) (R := room_1) (k9 := 200) (q9 := 20000) (pc := 1211) (lo := [(4, .int (nI 0)), (3, .ref ho), (2, .ref (ad 0)), (1, .ref o), (0, .ref K.1)]) X hA hZ (rest := []) ([(ho, .inl (cB, 1, .inr (.inl (fun _ => 0))))] ++ z_w cI cZ cT o z_S0) (m_w cI cZ ad m_Z0) (fun u : (Nat → Int64) × zS => ([(ho, .inl (cB, 1, .inr (.inl u.1)))] ++ z_w cI cZ cT o u.2) ++ m_w cI cZ ad m_Z0) (List.Perm.refl _) (fun _ => List.perm_append_comm) [.ref o, .int (K.2.2 1), .int (K.2.2 2), .ref ho] hW 4 rfl gL_law_L_foresee rfl ⟨rfl, rfl⟩ hL_foresee ⟨Nat.le_of_ble_eq_true rfl, Nat.le_of_ble_eq_true rfl⟩ rfl (Nat.le_of_ble_eq_true rfl) ⟨by show 200 + 0 ≤ 600002; omega, by show 20000 + 0 ≤ 7302232; omega⟩ dL_law_1211 (fun r9 u9 h9 => ?_)
  obtain ⟨h9a, h9b⟩ := h9
  replace h9a := h9a.symm
  subst h9a
  refine j_istore (lo' := [(5, .int (nI 0)), (4, .int (nI 0)), (3, .ref ho), (2, .ref (ad 0)), (1, .ref o), (0, .ref K.1)]) X dL_law_1214 (by decide) rfl ?_
  refine j_aload_n X 3 dL_law_1216 rfl rfl ?_
  refine law_arg X hZ hL 5 1 1 rfl rfl (by decide) (by decide) dL_law_1217 dL_law_1218 dL_law_1220 dL_law_1221 dL_law_1222 ?_
  refine law_arg X hZ hL 5 1 2 rfl rfl (by decide) (by decide) dL_law_1223 dL_law_1224 dL_law_1226 dL_law_1227 dL_law_1228 ?_
  refine p_callVI (p := p) (l := l) (e := e) (below := below) (Q := lw_Z below #[Value.ref K.1] s) (R := room_1) (k9 := 200 + 0) (q9 := 20000 + 0) (pc := 1229) (lo := [(5, .int (nI 0)), (4, .int (nI 0)), (3, .ref ho), (2, .ref (ad 0)), (1, .ref o), (0, .ref K.1)]) X hA hZ (rest := []) (m_w cI cZ ad m_Z0) ([(ho, .inl (cB, 1, .inr (.inl u9.1)))] ++ z_w cI cZ cT o u9.2) (fun u => ([(ho, .inl (cB, 1, .inr (.inl u9.1)))] ++ z_w cI cZ cT o u9.2) ++ m_w cI cZ ad u) List.perm_append_comm (fun _ => List.Perm.refl _) [.int (K.2.2 1), .int (K.2.2 2)] 0 rfl rfl hM 2 rfl gL_law_X7_foresee rfl ⟨rfl, rfl⟩ hm_foresee ⟨Nat.le_of_ble_eq_true rfl, Nat.le_of_ble_eq_true rfl⟩ rfl (Nat.le_of_ble_eq_true rfl) ⟨by show 200 + 0 + 0 ≤ 600002; omega, by show 20000 + 0 + 0 ≤ 7302232; omega⟩ dL_law_1229 (fun r8 u8 h8 => ?_)
  obtain ⟨h8a, h8b⟩ := h8
  replace h8a := h8a.symm
  subst h8a
  refine j_istore (lo' := [(6, .int V), (5, .int (nI 0)), (4, .int (nI 0)), (3, .ref ho), (2, .ref (ad 0)), (1, .ref o), (0, .ref K.1)]) X dL_law_1232 (by decide) rfl ?_
  refine j_aload_n X 4 dL_law_1234 rfl rfl ?_
  refine p_callVI (p := p) (l := l) (e := e) (below := below) (Q := lw_Z below #[Value.ref K.1] s) (R := room_1) (k9 := 200 + 0 + 0) (q9 := 20000 + 0 + 0) (pc := 1235) (lo := [(6, .int V), (5, .int (nI 0)), (4, .int (nI 0)), (3, .ref ho), (2, .ref (ad 0)), (1, .ref o), (0, .ref K.1)]) X hA hZ (rest := []) (m_w cI cZ ad u8) ([(ho, .inl (cB, 1, .inr (.inl u9.1)))] ++ z_w cI cZ cT o u9.2) (fun u => ([(ho, .inl (cB, 1, .inr (.inl u9.1)))] ++ z_w cI cZ cT o u9.2) ++ m_w cI cZ ad u) List.perm_append_comm (fun _ => List.Perm.refl _) [] 0 rfl rfl (m_thrown (cI := cI) (cZ := cZ) (cT := cT) (cB := cB) ad u8) 0 rfl gL_law_X7_thrown rfl ⟨rfl, rfl⟩ hm_thrown ⟨Nat.le_of_ble_eq_true rfl, Nat.le_of_ble_eq_true rfl⟩ rfl (Nat.le_of_ble_eq_true rfl) ⟨by show 200 + 0 + 0 + 0 ≤ 600002; omega, by show 20000 + 0 + 0 + 0 ≤ 7302232; omega⟩ dL_law_1235 (fun r7 u7 h7 => ?_)
  refine j_top (y := nI 0) (h7.1.trans h8b) ?_
  refine j_iload X 1 dL_law_1238 rfl ?_
  refine j_icmp_eq X (tgt := 1245) dL_law_1240 (by decide) (fun _ => ?_) (fun c9 => absurd rfl c9)
  refine j_iload X 1 dL_law_1245 rfl ?_
  refine j_nif_ne X 0 rfl (by omega) (tgt := 1262) dL_law_1247 (by decide) (fun c9 => absurd rfl c9) (fun _ => ?_)
  refine j_aload_n X 3 dL_law_1250 rfl rfl ?_
  refine j_iconst (v := nI 0) X (by decide) dL_law_1251 ?_
  refine j_lald X 0 3 rfl rfl 0 rfl (by decide) (by decide) dL_law_1252 ?_
  refine j_iload X 0 dL_law_1253 rfl ?_
  refine j_i2l X dL_law_1255 ?_
  refine j_lcmp X dL_law_1256 ?_
  refine j_if_eq X (tgt := 1262) dL_law_1257 (by decide) (fun _ => ?_) (fun c9 => absurd (by rw [h9b]; exact cmp_self _) c9)
  refine j_goto X (tgt := 1581) dL_law_1262 (by decide) ?_
  refine j_lo [2, 6] (lo' := [(4, .int (nI 0)), (0, .ref K.1)]) rfl ?_
  exact law_fin X hZ hL (Nat.le_of_ble_eq_true rfl) (Nat.le_of_ble_eq_true rfl)
theorem hL_falls : yL_falls.cls ≠ "java/lang/invoke/MethodHandle" ∧ yL_falls.cls ≠ "java/lang/invoke/VarHandle" ∧ (parseMethodDescriptor yL_falls.desc).map (fun d => d.parameters.length) = some 4 := by decide +kernel
theorem hm_falls : yX7_falls.cls = RX7 ∧ yX7_falls.cls ≠ "java/lang/invoke/MethodHandle" ∧ yX7_falls.cls ≠ "java/lang/invoke/VarHandle" ∧ (parseMethodDescriptor yX7_falls.desc).map (fun d => d.parameters.length) = some 2 := by decide +kernel
set_option maxRecDepth 100000 in
set_option maxHeartbeats 4000000 in
theorem lc_falls_t (X : j_X p s m #[Value.ref K.1] meth c code 9 RL wsL_law ret G (j_ty cI cZ cT cB)) (hZ : j_Z K (va_A ([] : va_W) s.heap.size) s s.heap) (hL : K.2.1 = 6) (k : Nat) (hk1 : 1 ≤ k) (hk3 : k ≤ 3) (V : Int32) (hW : jI l G K (j_ty cI cZ cT cB) yL_falls wsL_falls { frames := 7, cells := 1, slots := 6, locals := 159 } ([(ho, .inl (cB, 1, .inr (.inl (fun _ => 0))))] ++ z_w cI cZ cT o z_S0) [.ref o, .int (K.2.2 1), .int (K.2.2 2), .ref ho] 1 6 (fun r (u : (Nat → Int64) × zS) => r = nI k) (fun u => [(ho, .inl (cB, 1, .inr (.inl u.1)))] ++ z_w cI cZ cT o u.2)) (hM : jI l G K (j_ty cI cZ cT cB) yX7_falls wsX7_falls { frames := 7, cells := 0, slots := 0, locals := 164 } (m_w cI cZ ad m_Z0) [.ref (ad 0), .int (K.2.2 1), .int (K.2.2 2)] 0 0 (fun r (u : mS) => r = V ∧ u 0 0 = nI k) (fun u => m_w cI cZ ad u)) : j_V p l e room_1 s m #[Value.ref K.1] below meth c (lw_Z below #[Value.ref K.1] s) G 9 (va_A ([] : va_W) s.heap.size) 200 20000 (([(ho, .inl (cB, 1, .inr (.inl (fun _ => 0))))] ++ z_w cI cZ cT o z_S0) ++ m_w cI cZ ad m_Z0) 1265 [(4, .int (nI 0)), (3, .ref ho), (2, .ref (ad 0)), (1, .ref o), (0, .ref K.1)] [] := by
  have hA := hA_law (s := s)
  refine j_aload_n X 3 dL_law_1265 rfl rfl ?_
  refine law_arg X hZ hL 4 0 1 rfl rfl (by decide) (by decide) dL_law_1266 dL_law_1267 dL_law_1269 dL_law_1270 dL_law_1271 ?_
  refine law_arg X hZ hL 4 0 2 rfl rfl (by decide) (by decide) dL_law_1272 dL_law_1273 dL_law_1275 dL_law_1276 dL_law_1277 ?_
  refine j_aload_n X 1 dL_law_1278 rfl rfl ?_
  refine p_callWI (p := p) (l := l) (e := e) (below := below) (Q := lw_Z below #[Value.ref K.1] s) (R := room_1) (k9 := 200) (q9 := 20000) (pc := 1279) (lo := [(4, .int (nI 0)), (3, .ref ho), (2, .ref (ad 0)), (1, .ref o), (0, .ref K.1)]) X hA hZ (rest := []) ([(ho, .inl (cB, 1, .inr (.inl (fun _ => 0))))] ++ z_w cI cZ cT o z_S0) (m_w cI cZ ad m_Z0) (fun u : (Nat → Int64) × zS => ([(ho, .inl (cB, 1, .inr (.inl u.1)))] ++ z_w cI cZ cT o u.2) ++ m_w cI cZ ad m_Z0) (List.Perm.refl _) (fun _ => List.perm_append_comm) [.ref o, .int (K.2.2 1), .int (K.2.2 2), .ref ho] hW 4 rfl gL_law_L_falls rfl ⟨rfl, rfl⟩ hL_falls ⟨Nat.le_of_ble_eq_true rfl, Nat.le_of_ble_eq_true rfl⟩ rfl (Nat.le_of_ble_eq_true rfl) ⟨by show 200 + 1 ≤ 600002; omega, by show 20000 + 6 ≤ 7302232; omega⟩ dL_law_1279 (fun r9 u9 h9 => ?_)
  replace h9 := h9.symm
  subst h9
  refine j_istore (lo' := [(5, .int (nI k)), (4, .int (nI 0)), (3, .ref ho), (2, .ref (ad 0)), (1, .ref o), (0, .ref K.1)]) X dL_law_1282 (by decide) rfl ?_
  refine j_aload_n X 3 dL_law_1284 rfl rfl ?_
  refine law_arg X hZ hL 5 1 1 rfl rfl (by decide) (by decide) dL_law_1285 dL_law_1286 dL_law_1288 dL_law_1289 dL_law_1290 ?_
  refine law_arg X hZ hL 5 1 2 rfl rfl (by decide) (by decide) dL_law_1291 dL_law_1292 dL_law_1294 dL_law_1295 dL_law_1296 ?_
  refine p_callVI (p := p) (l := l) (e := e) (below := below) (Q := lw_Z below #[Value.ref K.1] s) (R := room_1) (k9 := 200 + 1) (q9 := 20000 + 6) (pc := 1297) (lo := [(5, .int (nI k)), (4, .int (nI 0)), (3, .ref ho), (2, .ref (ad 0)), (1, .ref o), (0, .ref K.1)]) X hA hZ (rest := []) (m_w cI cZ ad m_Z0) ([(ho, .inl (cB, 1, .inr (.inl u9.1)))] ++ z_w cI cZ cT o u9.2) (fun u => ([(ho, .inl (cB, 1, .inr (.inl u9.1)))] ++ z_w cI cZ cT o u9.2) ++ m_w cI cZ ad u) List.perm_append_comm (fun _ => List.Perm.refl _) [.int (K.2.2 1), .int (K.2.2 2)] 0 rfl rfl hM 2 rfl gL_law_X7_falls rfl ⟨rfl, rfl⟩ hm_falls ⟨Nat.le_of_ble_eq_true rfl, Nat.le_of_ble_eq_true rfl⟩ rfl (Nat.le_of_ble_eq_true rfl) ⟨by show 200 + 1 + 0 ≤ 600002; omega, by show 20000 + 6 + 0 ≤ 7302232; omega⟩ dL_law_1297 (fun r8 u8 h8 => ?_)
  obtain ⟨h8a, h8b⟩ := h8
  replace h8a := h8a.symm
  subst h8a
  refine j_istore (lo' := [(6, .int V), (5, .int (nI k)), (4, .int (nI 0)), (3, .ref ho), (2, .ref (ad 0)), (1, .ref o), (0, .ref K.1)]) X dL_law_1300 (by decide) rfl ?_
  refine j_aload_n X 4 dL_law_1302 rfl rfl ?_
  refine p_callVI (p := p) (l := l) (e := e) (below := below) (Q := lw_Z below #[Value.ref K.1] s) (R := room_1) (k9 := 200 + 1 + 0) (q9 := 20000 + 6 + 0) (pc := 1303) (lo := [(6, .int V), (5, .int (nI k)), (4, .int (nI 0)), (3, .ref ho), (2, .ref (ad 0)), (1, .ref o), (0, .ref K.1)]) X hA hZ (rest := []) (m_w cI cZ ad u8) ([(ho, .inl (cB, 1, .inr (.inl u9.1)))] ++ z_w cI cZ cT o u9.2) (fun u => ([(ho, .inl (cB, 1, .inr (.inl u9.1)))] ++ z_w cI cZ cT o u9.2) ++ m_w cI cZ ad u) List.perm_append_comm (fun _ => List.Perm.refl _) [] 0 rfl rfl (m_thrown (cI := cI) (cZ := cZ) (cT := cT) (cB := cB) ad u8) 0 rfl gL_law_X7_thrown rfl ⟨rfl, rfl⟩ hm_thrown ⟨Nat.le_of_ble_eq_true rfl, Nat.le_of_ble_eq_true rfl⟩ rfl (Nat.le_of_ble_eq_true rfl) ⟨by show 200 + 1 + 0 + 0 ≤ 600002; omega, by show 20000 + 6 + 0 + 0 ≤ 7302232; omega⟩ dL_law_1303 (fun r7 u7 h7 => ?_)
  refine j_top (y := nI k) (h7.1.trans h8b) ?_
  refine j_iload X 1 dL_law_1306 rfl ?_
  refine j_icmp_eq X (tgt := 1313) dL_law_1308 (by decide) (fun _ => ?_) (fun c9 => absurd rfl c9)
  refine j_iload X 1 dL_law_1313 rfl ?_
  refine j_nif_ne X k rfl (by omega) (tgt := 1330) dL_law_1315 (by decide) (fun _ => ?_) (fun c9 => absurd c9 (by omega))
  refine j_goto X (tgt := 1581) dL_law_1330 (by decide) ?_
  refine j_lo [2, 6] (lo' := [(4, .int (nI 0)), (0, .ref K.1)]) rfl ?_
  exact law_fin X hZ hL (Nat.le_of_ble_eq_true rfl) (Nat.le_of_ble_eq_true rfl)
set_option maxRecDepth 100000 in
set_option maxHeartbeats 4000000 in
theorem lc_falls_n (X : j_X p s m #[Value.ref K.1] meth c code 9 RL wsL_law ret G (j_ty cI cZ cT cB)) (hZ : j_Z K (va_A ([] : va_W) s.heap.size) s s.heap) (hL : K.2.1 = 6) (V : Int32) (hW : jI l G K (j_ty cI cZ cT cB) yL_falls wsL_falls { frames := 7, cells := 0, slots := 0, locals := 159 } ([(ho, .inl (cB, 1, .inr (.inl (fun _ => 0))))] ++ z_w cI cZ cT o z_S0) [.ref o, .int (K.2.2 1), .int (K.2.2 2), .ref ho] 0 0 (fun r (u : (Nat → Int64) × zS) => r = nI 0 ∧ u.1 0 = V.toInt64) (fun u => [(ho, .inl (cB, 1, .inr (.inl u.1)))] ++ z_w cI cZ cT o u.2)) (hM : jI l G K (j_ty cI cZ cT cB) yX7_falls wsX7_falls { frames := 7, cells := 0, slots := 0, locals := 164 } (m_w cI cZ ad m_Z0) [.ref (ad 0), .int (K.2.2 1), .int (K.2.2 2)] 0 0 (fun r (u : mS) => r = V ∧ u 0 0 = nI 0) (fun u => m_w cI cZ ad u)) : j_V p l e room_1 s m #[Value.ref K.1] below meth c (lw_Z below #[Value.ref K.1] s) G 9 (va_A ([] : va_W) s.heap.size) 200 20000 (([(ho, .inl (cB, 1, .inr (.inl (fun _ => 0))))] ++ z_w cI cZ cT o z_S0) ++ m_w cI cZ ad m_Z0) 1265 [(4, .int (nI 0)), (3, .ref ho), (2, .ref (ad 0)), (1, .ref o), (0, .ref K.1)] [] := by
  have hA := hA_law (s := s)
  refine j_aload_n X 3 dL_law_1265 rfl rfl ?_
  refine law_arg X hZ hL 4 0 1 rfl rfl (by decide) (by decide) dL_law_1266 dL_law_1267 dL_law_1269 dL_law_1270 dL_law_1271 ?_
  refine law_arg X hZ hL 4 0 2 rfl rfl (by decide) (by decide) dL_law_1272 dL_law_1273 dL_law_1275 dL_law_1276 dL_law_1277 ?_
  refine j_aload_n X 1 dL_law_1278 rfl rfl ?_
  refine p_callWI (p := p) (l := l) (e := e) (below := below) (Q := lw_Z below #[Value.ref K.1] s) (R := room_1) (k9 := 200) (q9 := 20000) (pc := 1279) (lo := [(4, .int (nI 0)), (3, .ref ho), (2, .ref (ad 0)), (1, .ref o), (0, .ref K.1)]) X hA hZ (rest := []) ([(ho, .inl (cB, 1, .inr (.inl (fun _ => 0))))] ++ z_w cI cZ cT o z_S0) (m_w cI cZ ad m_Z0) (fun u : (Nat → Int64) × zS => ([(ho, .inl (cB, 1, .inr (.inl u.1)))] ++ z_w cI cZ cT o u.2) ++ m_w cI cZ ad m_Z0) (List.Perm.refl _) (fun _ => List.perm_append_comm) [.ref o, .int (K.2.2 1), .int (K.2.2 2), .ref ho] hW 4 rfl gL_law_L_falls rfl ⟨rfl, rfl⟩ hL_falls ⟨Nat.le_of_ble_eq_true rfl, Nat.le_of_ble_eq_true rfl⟩ rfl (Nat.le_of_ble_eq_true rfl) ⟨by show 200 + 0 ≤ 600002; omega, by show 20000 + 0 ≤ 7302232; omega⟩ dL_law_1279 (fun r9 u9 h9 => ?_)
  obtain ⟨h9a, h9b⟩ := h9
  replace h9a := h9a.symm
  subst h9a
  refine j_istore (lo' := [(5, .int (nI 0)), (4, .int (nI 0)), (3, .ref ho), (2, .ref (ad 0)), (1, .ref o), (0, .ref K.1)]) X dL_law_1282 (by decide) rfl ?_
  refine j_aload_n X 3 dL_law_1284 rfl rfl ?_
  refine law_arg X hZ hL 5 1 1 rfl rfl (by decide) (by decide) dL_law_1285 dL_law_1286 dL_law_1288 dL_law_1289 dL_law_1290 ?_
  refine law_arg X hZ hL 5 1 2 rfl rfl (by decide) (by decide) dL_law_1291 dL_law_1292 dL_law_1294 dL_law_1295 dL_law_1296 ?_
  refine p_callVI (p := p) (l := l) (e := e) (below := below) (Q := lw_Z below #[Value.ref K.1] s) (R := room_1) (k9 := 200 + 0) (q9 := 20000 + 0) (pc := 1297) (lo := [(5, .int (nI 0)), (4, .int (nI 0)), (3, .ref ho), (2, .ref (ad 0)), (1, .ref o), (0, .ref K.1)]) X hA hZ (rest := []) (m_w cI cZ ad m_Z0) ([(ho, .inl (cB, 1, .inr (.inl u9.1)))] ++ z_w cI cZ cT o u9.2) (fun u => ([(ho, .inl (cB, 1, .inr (.inl u9.1)))] ++ z_w cI cZ cT o u9.2) ++ m_w cI cZ ad u) List.perm_append_comm (fun _ => List.Perm.refl _) [.int (K.2.2 1), .int (K.2.2 2)] 0 rfl rfl hM 2 rfl gL_law_X7_falls rfl ⟨rfl, rfl⟩ hm_falls ⟨Nat.le_of_ble_eq_true rfl, Nat.le_of_ble_eq_true rfl⟩ rfl (Nat.le_of_ble_eq_true rfl) ⟨by show 200 + 0 + 0 ≤ 600002; omega, by show 20000 + 0 + 0 ≤ 7302232; omega⟩ dL_law_1297 (fun r8 u8 h8 => ?_)
  obtain ⟨h8a, h8b⟩ := h8
  replace h8a := h8a.symm
  subst h8a
  refine j_istore (lo' := [(6, .int V), (5, .int (nI 0)), (4, .int (nI 0)), (3, .ref ho), (2, .ref (ad 0)), (1, .ref o), (0, .ref K.1)]) X dL_law_1300 (by decide) rfl ?_
  refine j_aload_n X 4 dL_law_1302 rfl rfl ?_
  refine p_callVI (p := p) (l := l) (e := e) (below := below) (Q := lw_Z below #[Value.ref K.1] s) (R := room_1) (k9 := 200 + 0 + 0) (q9 := 20000 + 0 + 0) (pc := 1303) (lo := [(6, .int V), (5, .int (nI 0)), (4, .int (nI 0)), (3, .ref ho), (2, .ref (ad 0)), (1, .ref o), (0, .ref K.1)]) X hA hZ (rest := []) (m_w cI cZ ad u8) ([(ho, .inl (cB, 1, .inr (.inl u9.1)))] ++ z_w cI cZ cT o u9.2) (fun u => ([(ho, .inl (cB, 1, .inr (.inl u9.1)))] ++ z_w cI cZ cT o u9.2) ++ m_w cI cZ ad u) List.perm_append_comm (fun _ => List.Perm.refl _) [] 0 rfl rfl (m_thrown (cI := cI) (cZ := cZ) (cT := cT) (cB := cB) ad u8) 0 rfl gL_law_X7_thrown rfl ⟨rfl, rfl⟩ hm_thrown ⟨Nat.le_of_ble_eq_true rfl, Nat.le_of_ble_eq_true rfl⟩ rfl (Nat.le_of_ble_eq_true rfl) ⟨by show 200 + 0 + 0 + 0 ≤ 600002; omega, by show 20000 + 0 + 0 + 0 ≤ 7302232; omega⟩ dL_law_1303 (fun r7 u7 h7 => ?_)
  refine j_top (y := nI 0) (h7.1.trans h8b) ?_
  refine j_iload X 1 dL_law_1306 rfl ?_
  refine j_icmp_eq X (tgt := 1313) dL_law_1308 (by decide) (fun _ => ?_) (fun c9 => absurd rfl c9)
  refine j_iload X 1 dL_law_1313 rfl ?_
  refine j_nif_ne X 0 rfl (by omega) (tgt := 1330) dL_law_1315 (by decide) (fun c9 => absurd rfl c9) (fun _ => ?_)
  refine j_aload_n X 3 dL_law_1318 rfl rfl ?_
  refine j_iconst (v := nI 0) X (by decide) dL_law_1319 ?_
  refine j_lald X 0 3 rfl rfl 0 rfl (by decide) (by decide) dL_law_1320 ?_
  refine j_iload X 0 dL_law_1321 rfl ?_
  refine j_i2l X dL_law_1323 ?_
  refine j_lcmp X dL_law_1324 ?_
  refine j_if_eq X (tgt := 1330) dL_law_1325 (by decide) (fun _ => ?_) (fun c9 => absurd (by rw [h9b]; exact cmp_self _) c9)
  refine j_goto X (tgt := 1581) dL_law_1330 (by decide) ?_
  refine j_lo [2, 6] (lo' := [(4, .int (nI 0)), (0, .ref K.1)]) rfl ?_
  exact law_fin X hZ hL (Nat.le_of_ble_eq_true rfl) (Nat.le_of_ble_eq_true rfl)
theorem hL_lasts : yL_lasts.cls ≠ "java/lang/invoke/MethodHandle" ∧ yL_lasts.cls ≠ "java/lang/invoke/VarHandle" ∧ (parseMethodDescriptor yL_lasts.desc).map (fun d => d.parameters.length) = some 3 := by decide +kernel
theorem hm_lasts : yX7_lasts.cls = RX7 ∧ yX7_lasts.cls ≠ "java/lang/invoke/MethodHandle" ∧ yX7_lasts.cls ≠ "java/lang/invoke/VarHandle" ∧ (parseMethodDescriptor yX7_lasts.desc).map (fun d => d.parameters.length) = some 1 := by decide +kernel
set_option maxRecDepth 100000 in
set_option maxHeartbeats 4000000 in
theorem lc_lasts_t (X : j_X p s m #[Value.ref K.1] meth c code 9 RL wsL_law ret G (j_ty cI cZ cT cB)) (hZ : j_Z K (va_A ([] : va_W) s.heap.size) s s.heap) (hL : K.2.1 = 6) (k : Nat) (hk1 : 1 ≤ k) (hk3 : k ≤ 3) (V : Int32) (hW : jI l G K (j_ty cI cZ cT cB) yL_lasts wsL_lasts { frames := 7, cells := 1, slots := 6, locals := 157 } ([(ho, .inl (cB, 1, .inr (.inl (fun _ => 0))))] ++ z_w cI cZ cT o z_S0) [.ref o, .int (K.2.2 1), .ref ho] 1 6 (fun r (u : (Nat → Int64) × zS) => r = nI k) (fun u => [(ho, .inl (cB, 1, .inr (.inl u.1)))] ++ z_w cI cZ cT o u.2)) (hM : jI l G K (j_ty cI cZ cT cB) yX7_lasts wsX7_lasts { frames := 7, cells := 0, slots := 0, locals := 163 } (m_w cI cZ ad m_Z0) [.ref (ad 0), .int (K.2.2 1)] 0 0 (fun r (u : mS) => r = V ∧ u 0 0 = nI k) (fun u => m_w cI cZ ad u)) : j_V p l e room_1 s m #[Value.ref K.1] below meth c (lw_Z below #[Value.ref K.1] s) G 9 (va_A ([] : va_W) s.heap.size) 200 20000 (([(ho, .inl (cB, 1, .inr (.inl (fun _ => 0))))] ++ z_w cI cZ cT o z_S0) ++ m_w cI cZ ad m_Z0) 1333 [(4, .int (nI 0)), (3, .ref ho), (2, .ref (ad 0)), (1, .ref o), (0, .ref K.1)] [] := by
  have hA := hA_law (s := s)
  refine j_aload_n X 3 dL_law_1333 rfl rfl ?_
  refine law_arg X hZ hL 4 0 1 rfl rfl (by decide) (by decide) dL_law_1334 dL_law_1335 dL_law_1337 dL_law_1338 dL_law_1339 ?_
  refine j_aload_n X 1 dL_law_1340 rfl rfl ?_
  refine p_callWI (p := p) (l := l) (e := e) (below := below) (Q := lw_Z below #[Value.ref K.1] s) (R := room_1) (k9 := 200) (q9 := 20000) (pc := 1341) (lo := [(4, .int (nI 0)), (3, .ref ho), (2, .ref (ad 0)), (1, .ref o), (0, .ref K.1)]) X hA hZ (rest := []) ([(ho, .inl (cB, 1, .inr (.inl (fun _ => 0))))] ++ z_w cI cZ cT o z_S0) (m_w cI cZ ad m_Z0) (fun u : (Nat → Int64) × zS => ([(ho, .inl (cB, 1, .inr (.inl u.1)))] ++ z_w cI cZ cT o u.2) ++ m_w cI cZ ad m_Z0) (List.Perm.refl _) (fun _ => List.perm_append_comm) [.ref o, .int (K.2.2 1), .ref ho] hW 3 rfl gL_law_L_lasts rfl ⟨rfl, rfl⟩ hL_lasts ⟨Nat.le_of_ble_eq_true rfl, Nat.le_of_ble_eq_true rfl⟩ rfl (Nat.le_of_ble_eq_true rfl) ⟨by show 200 + 1 ≤ 600002; omega, by show 20000 + 6 ≤ 7302232; omega⟩ dL_law_1341 (fun r9 u9 h9 => ?_)
  replace h9 := h9.symm
  subst h9
  refine j_istore (lo' := [(5, .int (nI k)), (4, .int (nI 0)), (3, .ref ho), (2, .ref (ad 0)), (1, .ref o), (0, .ref K.1)]) X dL_law_1344 (by decide) rfl ?_
  refine j_aload_n X 3 dL_law_1346 rfl rfl ?_
  refine law_arg X hZ hL 5 1 1 rfl rfl (by decide) (by decide) dL_law_1347 dL_law_1348 dL_law_1350 dL_law_1351 dL_law_1352 ?_
  refine p_callVI (p := p) (l := l) (e := e) (below := below) (Q := lw_Z below #[Value.ref K.1] s) (R := room_1) (k9 := 200 + 1) (q9 := 20000 + 6) (pc := 1353) (lo := [(5, .int (nI k)), (4, .int (nI 0)), (3, .ref ho), (2, .ref (ad 0)), (1, .ref o), (0, .ref K.1)]) X hA hZ (rest := []) (m_w cI cZ ad m_Z0) ([(ho, .inl (cB, 1, .inr (.inl u9.1)))] ++ z_w cI cZ cT o u9.2) (fun u => ([(ho, .inl (cB, 1, .inr (.inl u9.1)))] ++ z_w cI cZ cT o u9.2) ++ m_w cI cZ ad u) List.perm_append_comm (fun _ => List.Perm.refl _) [.int (K.2.2 1)] 0 rfl rfl hM 1 rfl gL_law_X7_lasts rfl ⟨rfl, rfl⟩ hm_lasts ⟨Nat.le_of_ble_eq_true rfl, Nat.le_of_ble_eq_true rfl⟩ rfl (Nat.le_of_ble_eq_true rfl) ⟨by show 200 + 1 + 0 ≤ 600002; omega, by show 20000 + 6 + 0 ≤ 7302232; omega⟩ dL_law_1353 (fun r8 u8 h8 => ?_)
  obtain ⟨h8a, h8b⟩ := h8
  replace h8a := h8a.symm
  subst h8a
  refine j_istore (lo' := [(6, .int V), (5, .int (nI k)), (4, .int (nI 0)), (3, .ref ho), (2, .ref (ad 0)), (1, .ref o), (0, .ref K.1)]) X dL_law_1356 (by decide) rfl ?_
  refine j_aload_n X 4 dL_law_1358 rfl rfl ?_
  refine p_callVI (p := p) (l := l) (e := e) (below := below) (Q := lw_Z below #[Value.ref K.1] s) (R := room_1) (k9 := 200 + 1 + 0) (q9 := 20000 + 6 + 0) (pc := 1359) (lo := [(6, .int V), (5, .int (nI k)), (4, .int (nI 0)), (3, .ref ho), (2, .ref (ad 0)), (1, .ref o), (0, .ref K.1)]) X hA hZ (rest := []) (m_w cI cZ ad u8) ([(ho, .inl (cB, 1, .inr (.inl u9.1)))] ++ z_w cI cZ cT o u9.2) (fun u => ([(ho, .inl (cB, 1, .inr (.inl u9.1)))] ++ z_w cI cZ cT o u9.2) ++ m_w cI cZ ad u) List.perm_append_comm (fun _ => List.Perm.refl _) [] 0 rfl rfl (m_thrown (cI := cI) (cZ := cZ) (cT := cT) (cB := cB) ad u8) 0 rfl gL_law_X7_thrown rfl ⟨rfl, rfl⟩ hm_thrown ⟨Nat.le_of_ble_eq_true rfl, Nat.le_of_ble_eq_true rfl⟩ rfl (Nat.le_of_ble_eq_true rfl) ⟨by show 200 + 1 + 0 + 0 ≤ 600002; omega, by show 20000 + 6 + 0 + 0 ≤ 7302232; omega⟩ dL_law_1359 (fun r7 u7 h7 => ?_)
  refine j_top (y := nI k) (h7.1.trans h8b) ?_
  refine j_iload X 1 dL_law_1362 rfl ?_
  refine j_icmp_eq X (tgt := 1369) dL_law_1364 (by decide) (fun _ => ?_) (fun c9 => absurd rfl c9)
  refine j_iload X 1 dL_law_1369 rfl ?_
  refine j_nif_ne X k rfl (by omega) (tgt := 1386) dL_law_1371 (by decide) (fun _ => ?_) (fun c9 => absurd c9 (by omega))
  refine j_goto X (tgt := 1581) dL_law_1386 (by decide) ?_
  refine j_lo [2, 6] (lo' := [(4, .int (nI 0)), (0, .ref K.1)]) rfl ?_
  exact law_fin X hZ hL (Nat.le_of_ble_eq_true rfl) (Nat.le_of_ble_eq_true rfl)
theorem hL_advise : yL_advise.cls ≠ "java/lang/invoke/MethodHandle" ∧ yL_advise.cls ≠ "java/lang/invoke/VarHandle" ∧ (parseMethodDescriptor yL_advise.desc).map (fun d => d.parameters.length) = some 4 := by decide +kernel
theorem hm_advise : yX7_advise.cls = RX7 ∧ yX7_advise.cls ≠ "java/lang/invoke/MethodHandle" ∧ yX7_advise.cls ≠ "java/lang/invoke/VarHandle" ∧ (parseMethodDescriptor yX7_advise.desc).map (fun d => d.parameters.length) = some 2 := by decide +kernel
set_option maxRecDepth 100000 in
set_option maxHeartbeats 4000000 in
theorem lc_advise_t (X : j_X p s m #[Value.ref K.1] meth c code 9 RL wsL_law ret G (j_ty cI cZ cT cB)) (hZ : j_Z K (va_A ([] : va_W) s.heap.size) s s.heap) (hL : K.2.1 = 6) (k : Nat) (hk1 : 1 ≤ k) (hk3 : k ≤ 3) (V : Int32) (hW : jI l G K (j_ty cI cZ cT cB) yL_advise wsL_advise { frames := 8, cells := 1, slots := 6, locals := 184 } ([(ho, .inl (cB, 1, .inr (.inl (fun _ => 0))))] ++ z_w cI cZ cT o z_S0) [.ref o, .int (K.2.2 1), .int (K.2.2 2), .ref ho] 1 6 (fun r (u : (Nat → Int64) × zS) => r = nI k) (fun u => [(ho, .inl (cB, 1, .inr (.inl u.1)))] ++ z_w cI cZ cT o u.2)) (hM : jI l G K (j_ty cI cZ cT cB) yX7_advise wsX7_advise { frames := 8, cells := 0, slots := 0, locals := 187 } (m_w cI cZ ad m_Z0) [.ref (ad 0), .int (K.2.2 1), .int (K.2.2 2)] 0 0 (fun r (u : mS) => r = V ∧ u 0 0 = nI k) (fun u => m_w cI cZ ad u)) : j_V p l e room_1 s m #[Value.ref K.1] below meth c (lw_Z below #[Value.ref K.1] s) G 9 (va_A ([] : va_W) s.heap.size) 200 20000 (([(ho, .inl (cB, 1, .inr (.inl (fun _ => 0))))] ++ z_w cI cZ cT o z_S0) ++ m_w cI cZ ad m_Z0) 1389 [(4, .int (nI 0)), (3, .ref ho), (2, .ref (ad 0)), (1, .ref o), (0, .ref K.1)] [] := by
  have hA := hA_law (s := s)
  refine j_aload_n X 3 dL_law_1389 rfl rfl ?_
  refine law_arg X hZ hL 4 0 1 rfl rfl (by decide) (by decide) dL_law_1390 dL_law_1391 dL_law_1393 dL_law_1394 dL_law_1395 ?_
  refine law_arg X hZ hL 4 0 2 rfl rfl (by decide) (by decide) dL_law_1396 dL_law_1397 dL_law_1399 dL_law_1400 dL_law_1401 ?_
  refine j_aload_n X 1 dL_law_1402 rfl rfl ?_
  refine p_callWI (p := p) (l := l) (e := e) (below := below) (Q := lw_Z below #[Value.ref K.1] s) (R := room_1) (k9 := 200) (q9 := 20000) (pc := 1403) (lo := [(4, .int (nI 0)), (3, .ref ho), (2, .ref (ad 0)), (1, .ref o), (0, .ref K.1)]) X hA hZ (rest := []) ([(ho, .inl (cB, 1, .inr (.inl (fun _ => 0))))] ++ z_w cI cZ cT o z_S0) (m_w cI cZ ad m_Z0) (fun u : (Nat → Int64) × zS => ([(ho, .inl (cB, 1, .inr (.inl u.1)))] ++ z_w cI cZ cT o u.2) ++ m_w cI cZ ad m_Z0) (List.Perm.refl _) (fun _ => List.perm_append_comm) [.ref o, .int (K.2.2 1), .int (K.2.2 2), .ref ho] hW 4 rfl gL_law_L_advise rfl ⟨rfl, rfl⟩ hL_advise ⟨Nat.le_of_ble_eq_true rfl, Nat.le_of_ble_eq_true rfl⟩ rfl (Nat.le_of_ble_eq_true rfl) ⟨by show 200 + 1 ≤ 600002; omega, by show 20000 + 6 ≤ 7302232; omega⟩ dL_law_1403 (fun r9 u9 h9 => ?_)
  replace h9 := h9.symm
  subst h9
  refine j_istore (lo' := [(5, .int (nI k)), (4, .int (nI 0)), (3, .ref ho), (2, .ref (ad 0)), (1, .ref o), (0, .ref K.1)]) X dL_law_1406 (by decide) rfl ?_
  refine j_aload_n X 3 dL_law_1408 rfl rfl ?_
  refine law_arg X hZ hL 5 1 1 rfl rfl (by decide) (by decide) dL_law_1409 dL_law_1410 dL_law_1412 dL_law_1413 dL_law_1414 ?_
  refine law_arg X hZ hL 5 1 2 rfl rfl (by decide) (by decide) dL_law_1415 dL_law_1416 dL_law_1418 dL_law_1419 dL_law_1420 ?_
  refine p_callVI (p := p) (l := l) (e := e) (below := below) (Q := lw_Z below #[Value.ref K.1] s) (R := room_1) (k9 := 200 + 1) (q9 := 20000 + 6) (pc := 1421) (lo := [(5, .int (nI k)), (4, .int (nI 0)), (3, .ref ho), (2, .ref (ad 0)), (1, .ref o), (0, .ref K.1)]) X hA hZ (rest := []) (m_w cI cZ ad m_Z0) ([(ho, .inl (cB, 1, .inr (.inl u9.1)))] ++ z_w cI cZ cT o u9.2) (fun u => ([(ho, .inl (cB, 1, .inr (.inl u9.1)))] ++ z_w cI cZ cT o u9.2) ++ m_w cI cZ ad u) List.perm_append_comm (fun _ => List.Perm.refl _) [.int (K.2.2 1), .int (K.2.2 2)] 0 rfl rfl hM 2 rfl gL_law_X7_advise rfl ⟨rfl, rfl⟩ hm_advise ⟨Nat.le_of_ble_eq_true rfl, Nat.le_of_ble_eq_true rfl⟩ rfl (Nat.le_of_ble_eq_true rfl) ⟨by show 200 + 1 + 0 ≤ 600002; omega, by show 20000 + 6 + 0 ≤ 7302232; omega⟩ dL_law_1421 (fun r8 u8 h8 => ?_)
  obtain ⟨h8a, h8b⟩ := h8
  replace h8a := h8a.symm
  subst h8a
  refine j_istore (lo' := [(6, .int V), (5, .int (nI k)), (4, .int (nI 0)), (3, .ref ho), (2, .ref (ad 0)), (1, .ref o), (0, .ref K.1)]) X dL_law_1424 (by decide) rfl ?_
  refine j_aload_n X 4 dL_law_1426 rfl rfl ?_
  refine p_callVI (p := p) (l := l) (e := e) (below := below) (Q := lw_Z below #[Value.ref K.1] s) (R := room_1) (k9 := 200 + 1 + 0) (q9 := 20000 + 6 + 0) (pc := 1427) (lo := [(6, .int V), (5, .int (nI k)), (4, .int (nI 0)), (3, .ref ho), (2, .ref (ad 0)), (1, .ref o), (0, .ref K.1)]) X hA hZ (rest := []) (m_w cI cZ ad u8) ([(ho, .inl (cB, 1, .inr (.inl u9.1)))] ++ z_w cI cZ cT o u9.2) (fun u => ([(ho, .inl (cB, 1, .inr (.inl u9.1)))] ++ z_w cI cZ cT o u9.2) ++ m_w cI cZ ad u) List.perm_append_comm (fun _ => List.Perm.refl _) [] 0 rfl rfl (m_thrown (cI := cI) (cZ := cZ) (cT := cT) (cB := cB) ad u8) 0 rfl gL_law_X7_thrown rfl ⟨rfl, rfl⟩ hm_thrown ⟨Nat.le_of_ble_eq_true rfl, Nat.le_of_ble_eq_true rfl⟩ rfl (Nat.le_of_ble_eq_true rfl) ⟨by show 200 + 1 + 0 + 0 ≤ 600002; omega, by show 20000 + 6 + 0 + 0 ≤ 7302232; omega⟩ dL_law_1427 (fun r7 u7 h7 => ?_)
  refine j_top (y := nI k) (h7.1.trans h8b) ?_
  refine j_iload X 1 dL_law_1430 rfl ?_
  refine j_icmp_eq X (tgt := 1437) dL_law_1432 (by decide) (fun _ => ?_) (fun c9 => absurd rfl c9)
  refine j_iload X 1 dL_law_1437 rfl ?_
  refine j_nif_ne X k rfl (by omega) (tgt := 1454) dL_law_1439 (by decide) (fun _ => ?_) (fun c9 => absurd c9 (by omega))
  refine j_goto X (tgt := 1581) dL_law_1454 (by decide) ?_
  refine j_lo [2, 6] (lo' := [(4, .int (nI 0)), (0, .ref K.1)]) rfl ?_
  exact law_fin X hZ hL (Nat.le_of_ble_eq_true rfl) (Nat.le_of_ble_eq_true rfl)
theorem hL_byteAt : yL_byteAt.cls ≠ "java/lang/invoke/MethodHandle" ∧ yL_byteAt.cls ≠ "java/lang/invoke/VarHandle" ∧ (parseMethodDescriptor yL_byteAt.desc).map (fun d => d.parameters.length) = some 3 := by decide +kernel
theorem hm_byteAt : yX7_byteAt.cls = RX7 ∧ yX7_byteAt.cls ≠ "java/lang/invoke/MethodHandle" ∧ yX7_byteAt.cls ≠ "java/lang/invoke/VarHandle" ∧ (parseMethodDescriptor yX7_byteAt.desc).map (fun d => d.parameters.length) = some 1 := by decide +kernel
set_option maxRecDepth 100000 in
set_option maxHeartbeats 4000000 in
theorem lc_byteAt_t (X : j_X p s m #[Value.ref K.1] meth c code 9 RL wsL_law ret G (j_ty cI cZ cT cB)) (hZ : j_Z K (va_A ([] : va_W) s.heap.size) s s.heap) (hL : K.2.1 = 6) (k : Nat) (hk1 : 1 ≤ k) (hk3 : k ≤ 3) (V : Int32) (hW : jI l G K (j_ty cI cZ cT cB) yL_byteAt wsL_byteAt { frames := 7, cells := 1, slots := 6, locals := 103 } ([(ho, .inl (cB, 1, .inr (.inl (fun _ => 0))))] ++ z_w cI cZ cT o z_S0) [.ref o, .int (K.2.2 1), .ref ho] 1 6 (fun r (u : (Nat → Int64) × zS) => r = nI k) (fun u => [(ho, .inl (cB, 1, .inr (.inl u.1)))] ++ z_w cI cZ cT o u.2)) (hM : jI l G K (j_ty cI cZ cT cB) yX7_byteAt wsX7_byteAt { frames := 1, cells := 0, slots := 0, locals := 22 } (m_w cI cZ ad m_Z0) [.ref (ad 0), .int (K.2.2 1)] 0 0 (fun r (u : mS) => r = V ∧ u 0 0 = nI k) (fun u => m_w cI cZ ad u)) : j_V p l e room_1 s m #[Value.ref K.1] below meth c (lw_Z below #[Value.ref K.1] s) G 9 (va_A ([] : va_W) s.heap.size) 200 20000 (([(ho, .inl (cB, 1, .inr (.inl (fun _ => 0))))] ++ z_w cI cZ cT o z_S0) ++ m_w cI cZ ad m_Z0) 1470 [(4, .int (nI 0)), (3, .ref ho), (2, .ref (ad 0)), (1, .ref o), (0, .ref K.1)] [] := by
  have hA := hA_law (s := s)
  refine j_aload_n X 3 dL_law_1470 rfl rfl ?_
  refine law_arg X hZ hL 4 0 1 rfl rfl (by decide) (by decide) dL_law_1471 dL_law_1472 dL_law_1474 dL_law_1475 dL_law_1476 ?_
  refine j_aload_n X 1 dL_law_1477 rfl rfl ?_
  refine p_callWI (p := p) (l := l) (e := e) (below := below) (Q := lw_Z below #[Value.ref K.1] s) (R := room_1) (k9 := 200) (q9 := 20000) (pc := 1478) (lo := [(4, .int (nI 0)), (3, .ref ho), (2, .ref (ad 0)), (1, .ref o), (0, .ref K.1)]) X hA hZ (rest := []) ([(ho, .inl (cB, 1, .inr (.inl (fun _ => 0))))] ++ z_w cI cZ cT o z_S0) (m_w cI cZ ad m_Z0) (fun u : (Nat → Int64) × zS => ([(ho, .inl (cB, 1, .inr (.inl u.1)))] ++ z_w cI cZ cT o u.2) ++ m_w cI cZ ad m_Z0) (List.Perm.refl _) (fun _ => List.perm_append_comm) [.ref o, .int (K.2.2 1), .ref ho] hW 3 rfl gL_law_L_byteAt rfl ⟨rfl, rfl⟩ hL_byteAt ⟨Nat.le_of_ble_eq_true rfl, Nat.le_of_ble_eq_true rfl⟩ rfl (Nat.le_of_ble_eq_true rfl) ⟨by show 200 + 1 ≤ 600002; omega, by show 20000 + 6 ≤ 7302232; omega⟩ dL_law_1478 (fun r9 u9 h9 => ?_)
  replace h9 := h9.symm
  subst h9
  refine j_istore (lo' := [(5, .int (nI k)), (4, .int (nI 0)), (3, .ref ho), (2, .ref (ad 0)), (1, .ref o), (0, .ref K.1)]) X dL_law_1481 (by decide) rfl ?_
  refine j_aload_n X 3 dL_law_1483 rfl rfl ?_
  refine law_arg X hZ hL 5 1 1 rfl rfl (by decide) (by decide) dL_law_1484 dL_law_1485 dL_law_1487 dL_law_1488 dL_law_1489 ?_
  refine p_callVI (p := p) (l := l) (e := e) (below := below) (Q := lw_Z below #[Value.ref K.1] s) (R := room_1) (k9 := 200 + 1) (q9 := 20000 + 6) (pc := 1490) (lo := [(5, .int (nI k)), (4, .int (nI 0)), (3, .ref ho), (2, .ref (ad 0)), (1, .ref o), (0, .ref K.1)]) X hA hZ (rest := []) (m_w cI cZ ad m_Z0) ([(ho, .inl (cB, 1, .inr (.inl u9.1)))] ++ z_w cI cZ cT o u9.2) (fun u => ([(ho, .inl (cB, 1, .inr (.inl u9.1)))] ++ z_w cI cZ cT o u9.2) ++ m_w cI cZ ad u) List.perm_append_comm (fun _ => List.Perm.refl _) [.int (K.2.2 1)] 0 rfl rfl hM 1 rfl gL_law_X7_byteAt rfl ⟨rfl, rfl⟩ hm_byteAt ⟨Nat.le_of_ble_eq_true rfl, Nat.le_of_ble_eq_true rfl⟩ rfl (Nat.le_of_ble_eq_true rfl) ⟨by show 200 + 1 + 0 ≤ 600002; omega, by show 20000 + 6 + 0 ≤ 7302232; omega⟩ dL_law_1490 (fun r8 u8 h8 => ?_)
  obtain ⟨h8a, h8b⟩ := h8
  replace h8a := h8a.symm
  subst h8a
  refine j_istore (lo' := [(6, .int V), (5, .int (nI k)), (4, .int (nI 0)), (3, .ref ho), (2, .ref (ad 0)), (1, .ref o), (0, .ref K.1)]) X dL_law_1493 (by decide) rfl ?_
  refine j_aload_n X 4 dL_law_1495 rfl rfl ?_
  refine p_callVI (p := p) (l := l) (e := e) (below := below) (Q := lw_Z below #[Value.ref K.1] s) (R := room_1) (k9 := 200 + 1 + 0) (q9 := 20000 + 6 + 0) (pc := 1496) (lo := [(6, .int V), (5, .int (nI k)), (4, .int (nI 0)), (3, .ref ho), (2, .ref (ad 0)), (1, .ref o), (0, .ref K.1)]) X hA hZ (rest := []) (m_w cI cZ ad u8) ([(ho, .inl (cB, 1, .inr (.inl u9.1)))] ++ z_w cI cZ cT o u9.2) (fun u => ([(ho, .inl (cB, 1, .inr (.inl u9.1)))] ++ z_w cI cZ cT o u9.2) ++ m_w cI cZ ad u) List.perm_append_comm (fun _ => List.Perm.refl _) [] 0 rfl rfl (m_thrown (cI := cI) (cZ := cZ) (cT := cT) (cB := cB) ad u8) 0 rfl gL_law_X7_thrown rfl ⟨rfl, rfl⟩ hm_thrown ⟨Nat.le_of_ble_eq_true rfl, Nat.le_of_ble_eq_true rfl⟩ rfl (Nat.le_of_ble_eq_true rfl) ⟨by show 200 + 1 + 0 + 0 ≤ 600002; omega, by show 20000 + 6 + 0 + 0 ≤ 7302232; omega⟩ dL_law_1496 (fun r7 u7 h7 => ?_)
  refine j_top (y := nI k) (h7.1.trans h8b) ?_
  refine j_iload X 1 dL_law_1499 rfl ?_
  refine j_icmp_eq X (tgt := 1506) dL_law_1501 (by decide) (fun _ => ?_) (fun c9 => absurd rfl c9)
  refine j_iload X 1 dL_law_1506 rfl ?_
  refine j_nif_ne X k rfl (by omega) (tgt := 1523) dL_law_1508 (by decide) (fun _ => ?_) (fun c9 => absurd c9 (by omega))
  refine j_goto X (tgt := 1581) dL_law_1523 (by decide) ?_
  refine j_lo [2, 6] (lo' := [(4, .int (nI 0)), (0, .ref K.1)]) rfl ?_
  exact law_fin X hZ hL (Nat.le_of_ble_eq_true rfl) (Nat.le_of_ble_eq_true rfl)
theorem hx_map : yX5_map.cls = RX5 ∧ yX5_map.cls ≠ "java/lang/invoke/MethodHandle" ∧ yX5_map.cls ≠ "java/lang/invoke/VarHandle" ∧ (parseMethodDescriptor yX5_map.desc).map (fun d => d.parameters.length) = some 0 := by decide +kernel
theorem hm_map : yX7_map.cls = RX7 ∧ yX7_map.cls ≠ "java/lang/invoke/MethodHandle" ∧ yX7_map.cls ≠ "java/lang/invoke/VarHandle" ∧ (parseMethodDescriptor yX7_map.desc).map (fun d => d.parameters.length) = some 0 := by decide +kernel
set_option maxRecDepth 100000 in
set_option maxHeartbeats 4000000 in
theorem lc_map (X : j_X p s m #[Value.ref K.1] meth c code 9 RL wsL_law ret G (j_ty cI cZ cT cB)) (hZ : j_Z K (va_A ([] : va_W) s.heap.size) s s.heap) (hL : K.2.1 = 6) : j_V p l e room_1 s m #[Value.ref K.1] below meth c (lw_Z below #[Value.ref K.1] s) G 9 (va_A ([] : va_W) s.heap.size) 200 20000 (([(ho, .inl (cB, 1, .inr (.inl (fun _ => 0))))] ++ z_w cI cZ cT o z_S0) ++ m_w cI cZ ad m_Z0) 308 [(4, .int (nI 0)), (3, .ref ho), (2, .ref (ad 0)), (1, .ref o), (0, .ref K.1)] [] := by
  have hA := hA_law (s := s)
  refine j_aload_n X 3 dL_law_308 rfl rfl ?_
  refine j_perm (lwq_1 [(ho, .inl (cB, 1, .inr (.inl (fun _ => 0))))] (z_w cI cZ cT o z_S0) (m_w cI cZ ad m_Z0)) ?_
  refine j_callZI (p := p) (l := l) (e := e) (below := below) (Q := lw_Z below #[Value.ref K.1] s) (R := room_1) (k9 := 200) (q9 := 20000) (pc := 309) (lo := [(4, .int (nI 0)), (3, .ref ho), (2, .ref (ad 0)), (1, .ref o), (0, .ref K.1)]) X hA hZ (rest := []) ([(ho, .inl (cB, 1, .inr (.inl (fun _ => 0))))] ++ m_w cI cZ ad m_Z0) [] (c_X5_map l G cI cZ cT o z_S0 0 (by decide) rfl) 0 rfl gL_law_X5_map rfl ⟨rfl, rfl⟩ hx_map ⟨Nat.le_of_ble_eq_true rfl, Nat.le_of_ble_eq_true rfl⟩ rfl (Nat.le_of_ble_eq_true rfl) ⟨by show 200 ≤ 600002; omega, by show 20000 ≤ 7302232; omega⟩ dL_law_309 (fun r9 u9 h9 => ?_)
  have h8 : r9 = nI 0 := h9.1.trans V_err
  replace h8 := h8.symm
  subst h8
  refine j_aload_n X 2 dL_law_312 rfl rfl ?_
  refine p_callVI (p := p) (l := l) (e := e) (below := below) (Q := lw_Z below #[Value.ref K.1] s) (R := room_1) (k9 := 200) (q9 := 20000) (pc := 313) (lo := [(4, .int (nI 0)), (3, .ref ho), (2, .ref (ad 0)), (1, .ref o), (0, .ref K.1)]) X hA hZ (rest := [.int (nI 0)]) (m_w cI cZ ad m_Z0) ([(ho, .inl (cB, 1, .inr (.inl (fun _ => 0))))] ++ z_w cI cZ cT o u9) (fun u => ([(ho, .inl (cB, 1, .inr (.inl (fun _ => 0))))] ++ z_w cI cZ cT o u9) ++ m_w cI cZ ad u) ((lwq_1 [(ho, .inl (cB, 1, .inr (.inl (fun _ => 0))))] (m_w cI cZ ad m_Z0) (z_w cI cZ cT o u9)).trans List.perm_append_comm) (fun _ => List.Perm.refl _) [] 0 rfl rfl (m_map (cI := cI) (cZ := cZ) (cT := cT) (cB := cB) ad m_Z0 mfr_Z0) 0 rfl gL_law_X7_map rfl ⟨rfl, rfl⟩ hm_map ⟨Nat.le_of_ble_eq_true rfl, Nat.le_of_ble_eq_true rfl⟩ rfl (Nat.le_of_ble_eq_true rfl) ⟨by show 200 + 0 ≤ 600002; omega, by show 20000 + 0 ≤ 7302232; omega⟩ dL_law_313 (fun r8 u8 h8 => ?_)
  have h7 : r8 = nI 0 := h8.1
  replace h7 := h7.symm
  subst h7
  refine j_icmp_eq X (tgt := 1581) dL_law_316 (by decide) (fun _ => ?_) (fun c9 => absurd rfl c9)
  refine j_lo [0, 4] (lo' := [(4, .int (nI 0)), (0, .ref K.1)]) rfl ?_
  exact law_fin X hZ hL (Nat.le_of_ble_eq_true rfl) (Nat.le_of_ble_eq_true rfl)
theorem hx_draw : yX5_draw.cls = RX5 ∧ yX5_draw.cls ≠ "java/lang/invoke/MethodHandle" ∧ yX5_draw.cls ≠ "java/lang/invoke/VarHandle" ∧ (parseMethodDescriptor yX5_draw.desc).map (fun d => d.parameters.length) = some 0 := by decide +kernel
theorem hm_draw : yX7_draw.cls = RX7 ∧ yX7_draw.cls ≠ "java/lang/invoke/MethodHandle" ∧ yX7_draw.cls ≠ "java/lang/invoke/VarHandle" ∧ (parseMethodDescriptor yX7_draw.desc).map (fun d => d.parameters.length) = some 0 := by decide +kernel
set_option maxRecDepth 100000 in
set_option maxHeartbeats 4000000 in
theorem lc_draw (X : j_X p s m #[Value.ref K.1] meth c code 9 RL wsL_law ret G (j_ty cI cZ cT cB)) (hZ : j_Z K (va_A ([] : va_W) s.heap.size) s s.heap) (hL : K.2.1 = 6) : j_V p l e room_1 s m #[Value.ref K.1] below meth c (lw_Z below #[Value.ref K.1] s) G 9 (va_A ([] : va_W) s.heap.size) 200 20000 (([(ho, .inl (cB, 1, .inr (.inl (fun _ => 0))))] ++ z_w cI cZ cT o z_S0) ++ m_w cI cZ ad m_Z0) 1457 [(4, .int (nI 0)), (3, .ref ho), (2, .ref (ad 0)), (1, .ref o), (0, .ref K.1)] [] := by
  have hA := hA_law (s := s)
  refine j_aload_n X 3 dL_law_1457 rfl rfl ?_
  refine j_perm (lwq_1 [(ho, .inl (cB, 1, .inr (.inl (fun _ => 0))))] (z_w cI cZ cT o z_S0) (m_w cI cZ ad m_Z0)) ?_
  refine j_callZI (p := p) (l := l) (e := e) (below := below) (Q := lw_Z below #[Value.ref K.1] s) (R := room_1) (k9 := 200) (q9 := 20000) (pc := 1458) (lo := [(4, .int (nI 0)), (3, .ref ho), (2, .ref (ad 0)), (1, .ref o), (0, .ref K.1)]) X hA hZ (rest := []) ([(ho, .inl (cB, 1, .inr (.inl (fun _ => 0))))] ++ m_w cI cZ ad m_Z0) [] (c_X5_draw l G cI cZ cT o z_S0 rfl (fun c hc => ⟨S0_1 c, S0_0 c, S0_k (by decide) 2 c (by decide)⟩)) 0 rfl gL_law_X5_draw rfl ⟨rfl, rfl⟩ hx_draw ⟨Nat.le_of_ble_eq_true rfl, Nat.le_of_ble_eq_true rfl⟩ rfl (Nat.le_of_ble_eq_true rfl) ⟨by show 200 ≤ 600002; omega, by show 20000 ≤ 7302232; omega⟩ dL_law_1458 (fun r9 u9 h9 => ?_)
  have h8 : r9 = 156 := h9.1
  replace h8 := h8.symm
  subst h8
  refine j_aload_n X 2 dL_law_1461 rfl rfl ?_
  refine p_callVI (p := p) (l := l) (e := e) (below := below) (Q := lw_Z below #[Value.ref K.1] s) (R := room_1) (k9 := 200) (q9 := 20000) (pc := 1462) (lo := [(4, .int (nI 0)), (3, .ref ho), (2, .ref (ad 0)), (1, .ref o), (0, .ref K.1)]) X hA hZ (rest := [.int (156)]) (m_w cI cZ ad m_Z0) ([(ho, .inl (cB, 1, .inr (.inl (fun _ => 0))))] ++ z_w cI cZ cT o u9) (fun u => ([(ho, .inl (cB, 1, .inr (.inl (fun _ => 0))))] ++ z_w cI cZ cT o u9) ++ m_w cI cZ ad u) ((lwq_1 [(ho, .inl (cB, 1, .inr (.inl (fun _ => 0))))] (m_w cI cZ ad m_Z0) (z_w cI cZ cT o u9)).trans List.perm_append_comm) (fun _ => List.Perm.refl _) [] 0 rfl rfl (m_draw (cI := cI) (cZ := cZ) (cT := cT) (cB := cB) ad m_Z0 mfr_Z0) 0 rfl gL_law_X7_draw rfl ⟨rfl, rfl⟩ hm_draw ⟨Nat.le_of_ble_eq_true rfl, Nat.le_of_ble_eq_true rfl⟩ rfl (Nat.le_of_ble_eq_true rfl) ⟨by show 200 + 0 ≤ 600002; omega, by show 20000 + 0 ≤ 7302232; omega⟩ dL_law_1462 (fun r8 u8 h8 => ?_)
  have h7 : r8 = 156 := h8.1
  replace h7 := h7.symm
  subst h7
  refine j_icmp_eq X (tgt := 1581) dL_law_1465 (by decide) (fun _ => ?_) (fun c9 => absurd rfl c9)
  refine j_lo [0, 4] (lo' := [(4, .int (nI 0)), (0, .ref K.1)]) rfl ?_
  exact law_fin X hZ hL (Nat.le_of_ble_eq_true rfl) (Nat.le_of_ble_eq_true rfl)
theorem hx_share : yX5_share.cls = RX5 ∧ yX5_share.cls ≠ "java/lang/invoke/MethodHandle" ∧ yX5_share.cls ≠ "java/lang/invoke/VarHandle" ∧ (parseMethodDescriptor yX5_share.desc).map (fun d => d.parameters.length) = some 0 := by decide +kernel
theorem hm_share : yX7_share.cls = RX7 ∧ yX7_share.cls ≠ "java/lang/invoke/MethodHandle" ∧ yX7_share.cls ≠ "java/lang/invoke/VarHandle" ∧ (parseMethodDescriptor yX7_share.desc).map (fun d => d.parameters.length) = some 0 := by decide +kernel
set_option maxRecDepth 100000 in
set_option maxHeartbeats 4000000 in
theorem lc_share (X : j_X p s m #[Value.ref K.1] meth c code 9 RL wsL_law ret G (j_ty cI cZ cT cB)) (hZ : j_Z K (va_A ([] : va_W) s.heap.size) s s.heap) (hL : K.2.1 = 6) : j_V p l e room_1 s m #[Value.ref K.1] below meth c (lw_Z below #[Value.ref K.1] s) G 9 (va_A ([] : va_W) s.heap.size) 200 20000 (([(ho, .inl (cB, 1, .inr (.inl (fun _ => 0))))] ++ z_w cI cZ cT o z_S0) ++ m_w cI cZ ad m_Z0) 1526 [(4, .int (nI 0)), (3, .ref ho), (2, .ref (ad 0)), (1, .ref o), (0, .ref K.1)] [] := by
  have hA := hA_law (s := s)
  refine j_aload_n X 3 dL_law_1526 rfl rfl ?_
  refine j_perm (lwq_1 [(ho, .inl (cB, 1, .inr (.inl (fun _ => 0))))] (z_w cI cZ cT o z_S0) (m_w cI cZ ad m_Z0)) ?_
  refine j_callZD (p := p) (l := l) (e := e) (below := below) (Q := lw_Z below #[Value.ref K.1] s) (R := room_1) (k9 := 200) (q9 := 20000) (pc := 1527) (lo := [(4, .int (nI 0)), (3, .ref ho), (2, .ref (ad 0)), (1, .ref o), (0, .ref K.1)]) X hA hZ (rest := []) ([(ho, .inl (cB, 1, .inr (.inl (fun _ => 0))))] ++ m_w cI cZ ad m_Z0) [] (c_X5_share l G cI cZ cT o z_S0 V_down V_up) 0 rfl gL_law_X5_share rfl ⟨rfl, rfl⟩ hx_share ⟨Nat.le_of_ble_eq_true rfl, Nat.le_of_ble_eq_true rfl⟩ rfl (Nat.le_of_ble_eq_true rfl) ⟨by show 200 ≤ 600002; omega, by show 20000 ≤ 7302232; omega⟩ dL_law_1527 (fun r9 u9 h9 => ?_)
  have h8 : r9 = FP.dconst0 := h9.1
  replace h8 := h8.symm
  subst h8
  refine j_dstore (lo' := [(5, .double (FP.dconst0)), (4, .int (nI 0)), (3, .ref ho), (2, .ref (ad 0)), (1, .ref o), (0, .ref K.1)]) X dL_law_1530 (by decide) rfl ?_
  refine j_aload_n X 3 dL_law_1532 rfl rfl ?_
  refine p_callVD (p := p) (l := l) (e := e) (below := below) (Q := lw_Z below #[Value.ref K.1] s) (R := room_1) (k9 := 200) (q9 := 20000) (pc := 1533) (lo := [(5, .double (FP.dconst0)), (4, .int (nI 0)), (3, .ref ho), (2, .ref (ad 0)), (1, .ref o), (0, .ref K.1)]) X hA hZ (rest := []) (m_w cI cZ ad m_Z0) ([(ho, .inl (cB, 1, .inr (.inl (fun _ => 0))))] ++ z_w cI cZ cT o u9) (fun u => ([(ho, .inl (cB, 1, .inr (.inl (fun _ => 0))))] ++ z_w cI cZ cT o u9) ++ m_w cI cZ ad u) ((lwq_1 [(ho, .inl (cB, 1, .inr (.inl (fun _ => 0))))] (m_w cI cZ ad m_Z0) (z_w cI cZ cT o u9)).trans List.perm_append_comm) (fun _ => List.Perm.refl _) [] 0 rfl rfl (m_share (cI := cI) (cZ := cZ) (cT := cT) (cB := cB) ad m_Z0 mfr_Z0) 0 rfl gL_law_X7_share rfl ⟨rfl, rfl⟩ hm_share ⟨Nat.le_of_ble_eq_true rfl, Nat.le_of_ble_eq_true rfl⟩ rfl (Nat.le_of_ble_eq_true rfl) ⟨by show 200 + 2 ≤ 600002; omega, by show 20000 + 24 ≤ 7302232; omega⟩ dL_law_1533 (fun r8 u8 h8 => ?_)
  have h7 : r8 = FP.dconst0 := h8.1
  replace h7 := h7.symm
  subst h7
  refine j_dstore (lo' := [(7, .double (FP.dconst0)), (5, .double (FP.dconst0)), (4, .int (nI 0)), (3, .ref ho), (2, .ref (ad 0)), (1, .ref o), (0, .ref K.1)]) X dL_law_1536 (by decide) rfl ?_
  refine j_dload X 1 dL_law_1538 rfl ?_
  refine j_dload X 0 dL_law_1540 rfl ?_
  refine j_dcmp X dL_law_1542 ?_
  refine j_if_eq X (tgt := 1564) dL_law_1543 (by decide) (fun _ => ?_) (fun c9 => absurd (by decide +kernel) c9)
  refine j_goto X (tgt := 1581) dL_law_1564 (by decide) ?_
  refine j_lo [2, 6] (lo' := [(4, .int (nI 0)), (0, .ref K.1)]) rfl ?_
  exact law_fin X hZ hL (Nat.le_of_ble_eq_true rfl) (Nat.le_of_ble_eq_true rfl)
theorem hx_digest : yX5_digest.cls = RX5 ∧ yX5_digest.cls ≠ "java/lang/invoke/MethodHandle" ∧ yX5_digest.cls ≠ "java/lang/invoke/VarHandle" ∧ (parseMethodDescriptor yX5_digest.desc).map (fun d => d.parameters.length) = some 0 := by decide +kernel
theorem hm_digest : yX7_digest.cls = RX7 ∧ yX7_digest.cls ≠ "java/lang/invoke/MethodHandle" ∧ yX7_digest.cls ≠ "java/lang/invoke/VarHandle" ∧ (parseMethodDescriptor yX7_digest.desc).map (fun d => d.parameters.length) = some 0 := by decide +kernel
set_option maxRecDepth 100000 in
set_option maxHeartbeats 4000000 in
theorem lc_digest (X : j_X p s m #[Value.ref K.1] meth c code 9 RL wsL_law ret G (j_ty cI cZ cT cB)) (hZ : j_Z K (va_A ([] : va_W) s.heap.size) s s.heap) (hL : K.2.1 = 6) : j_V p l e room_1 s m #[Value.ref K.1] below meth c (lw_Z below #[Value.ref K.1] s) G 9 (va_A ([] : va_W) s.heap.size) 200 20000 (([(ho, .inl (cB, 1, .inr (.inl (fun _ => 0))))] ++ z_w cI cZ cT o z_S0) ++ m_w cI cZ ad m_Z0) 1567 [(4, .int (nI 0)), (3, .ref ho), (2, .ref (ad 0)), (1, .ref o), (0, .ref K.1)] [] := by
  have hA := hA_law (s := s)
  refine j_aload_n X 3 dL_law_1567 rfl rfl ?_
  refine j_perm (lwq_1 [(ho, .inl (cB, 1, .inr (.inl (fun _ => 0))))] (z_w cI cZ cT o z_S0) (m_w cI cZ ad m_Z0)) ?_
  refine j_callZL (p := p) (l := l) (e := e) (below := below) (Q := lw_Z below #[Value.ref K.1] s) (R := room_1) (k9 := 200) (q9 := 20000) (pc := 1568) (lo := [(4, .int (nI 0)), (3, .ref ho), (2, .ref (ad 0)), (1, .ref o), (0, .ref K.1)]) X hA hZ (rest := []) ([(ho, .inl (cB, 1, .inr (.inl (fun _ => 0))))] ++ m_w cI cZ ad m_Z0) [] (c_X5_digest l G cI cZ cT o z_S0 0 0 (ok_S0 (by decide)) (by decide) rfl) 0 rfl gL_law_X5_digest rfl ⟨rfl, rfl⟩ hx_digest ⟨Nat.le_of_ble_eq_true rfl, Nat.le_of_ble_eq_true rfl⟩ rfl (Nat.le_of_ble_eq_true rfl) ⟨by show 200 ≤ 600002; omega, by show 20000 ≤ 7302232; omega⟩ dL_law_1568 (fun r9 u9 h9 => ?_)
  have h8 : r9 = md2 1152 := h9.1.trans V_digest
  replace h8 := h8.symm
  subst h8
  refine j_aload_n X 2 dL_law_1571 rfl rfl ?_
  refine p_callVL (p := p) (l := l) (e := e) (below := below) (Q := lw_Z below #[Value.ref K.1] s) (R := room_1) (k9 := 200) (q9 := 20000) (pc := 1572) (lo := [(4, .int (nI 0)), (3, .ref ho), (2, .ref (ad 0)), (1, .ref o), (0, .ref K.1)]) X hA hZ (rest := [.long (md2 1152)]) (m_w cI cZ ad m_Z0) ([(ho, .inl (cB, 1, .inr (.inl (fun _ => 0))))] ++ z_w cI cZ cT o u9) (fun u => ([(ho, .inl (cB, 1, .inr (.inl (fun _ => 0))))] ++ z_w cI cZ cT o u9) ++ m_w cI cZ ad u) ((lwq_1 [(ho, .inl (cB, 1, .inr (.inl (fun _ => 0))))] (m_w cI cZ ad m_Z0) (z_w cI cZ cT o u9)).trans List.perm_append_comm) (fun _ => List.Perm.refl _) [] 0 rfl rfl (m_digest (cI := cI) (cZ := cZ) (cT := cT) (cB := cB) ad m_Z0 mfr_Z0) 0 rfl gL_law_X7_digest rfl ⟨rfl, rfl⟩ hm_digest ⟨Nat.le_of_ble_eq_true rfl, Nat.le_of_ble_eq_true rfl⟩ rfl (Nat.le_of_ble_eq_true rfl) ⟨by show 200 + 12 ≤ 600002; omega, by show 20000 + 144 ≤ 7302232; omega⟩ dL_law_1572 (fun r8 u8 h8 => ?_)
  have h7 : r8 = md2 1152 := h8.1
  replace h7 := h7.symm
  subst h7
  refine j_lcmp X dL_law_1575 ?_
  refine j_if_eq X (tgt := 1581) dL_law_1576 (by decide) (fun _ => ?_) (fun c9 => absurd (cmp_self _) c9)
  refine j_lo [0, 4] (lo' := [(4, .int (nI 0)), (0, .ref K.1)]) rfl ?_
  exact law_fin X hZ hL (Nat.le_of_ble_eq_true rfl) (Nat.le_of_ble_eq_true rfl)
end ZMQ
