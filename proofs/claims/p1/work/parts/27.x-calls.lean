section ZK
variable {p : Program} {l : Launch} {e : Env} {R : Room} {s : State} {m : MethodId} {args : Array Value} {below : List Frame} {meth : Method} {c : Code} {Q : State → Prop}
variable {G : va_G} {nL k9 q9 : Nat} {cc : ByteArray} {own : String} {Ts : List Cond} {rt : Option FieldType} {tys : List (ClassId × FieldType)} {K : Nat × Nat × (Nat → Int32)} {A : Nat → Prop} {ws ws' : va_W} {pc : Nat} {lo lo' : List (Nat × Value)} {st rest : List Value} {cI cZ cT cB : ClassId} {o : Nat}
theorem w_nodup {ws : va_W} (hD : va_D A ws) : (ws.map Prod.fst).Nodup := by
  rw [List.nodup_iff_pairwise_ne, List.pairwise_iff_getElem]
  intro i j hi hj hij he
  rw [List.length_map] at hi hj
  rw [List.getElem_map, List.getElem_map] at he
  have := hD.1 i j _ _ (List.getElem?_eq_getElem hi) (List.getElem?_eq_getElem hj) he
  omega
theorem w_inj {ws : va_W} (hn : (ws.map Prod.fst).Nodup) : ∀ (i j : Nat) (p q : Nat × va_E), ws[i]? = some p → ws[j]? = some q → p.1 = q.1 → i = j := by
  intro i j p q hp hq h
  have hi : i < (ws.map Prod.fst).length := by rw [List.length_map]; exact (List.getElem?_eq_some_iff.mp hp).1
  exact (List.getElem?_inj hi hn).mp (by rw [List.getElem?_map, List.getElem?_map, hp, hq]; show some p.1 = some q.1; rw [h])
theorem w_memA {ws ws' : va_W} (hs : ∀ q ∈ ws', q ∈ ws) (hD : va_D A ws) : ∀ (k : Nat) (q : Nat × va_E), ws'[k]? = some q → A q.1 := fun k q hk => by
  obtain ⟨i, hi⟩ := List.getElem?_of_mem (hs q (List.mem_of_getElem? hk))
  exact hD.2 i q hi
theorem w_perm {ws ws' : va_W} (hp : ws.Perm ws') (hD : va_D A ws) : va_D A ws' := ⟨w_inj ((hp.map Prod.fst).nodup (w_nodup hD)), w_memA (fun q hq => hp.mem_iff.mpr hq) hD⟩
theorem w_sublist {ws ws' : va_W} (hs : ws'.Sublist ws) (hD : va_D A ws) : va_D A ws' := ⟨w_inj (List.Nodup.sublist (hs.map Prod.fst) (w_nodup hD)), w_memA (fun q hq => hs.subset hq) hD⟩
theorem P_mem {D : va_G} {cl : List vw_C} {ws ws' : va_W} {H : Heap} (hs : ∀ q ∈ ws', q ∈ ws) (hP : va_P D cl ws H) : va_P D cl ws' H := fun k q hk => by
  obtain ⟨i, hi⟩ := List.getElem?_of_mem (hs q (List.mem_of_getElem? hk))
  exact hP i q hi
theorem nd_of : ∀ l : List Nat, l.Nodup → va_nd l = true
  | [], _ => rfl
  | a :: l, h => by
    have h1 := List.nodup_cons.mp h
    simp only [va_nd, Bool.and_eq_true, decide_eq_true_eq]
    exact ⟨h1.1, nd_of l h1.2⟩
theorem nd_add (n : Nat) {l : List Nat} (h : l.Nodup) : (l.map (fun i => n + i)).Nodup := by
  rw [List.nodup_iff_pairwise_ne, List.pairwise_map]
  rw [List.nodup_iff_pairwise_ne] at h
  exact h.imp (fun q r => q (by omega))
theorem is_C (wc wr : va_W) : (List.range wc.length).map (fun i => (wc ++ wr)[i]?) = wc.map some := by
  apply List.ext_getElem?
  intro i
  by_cases h : i < wc.length
  · rw [List.getElem?_map, List.getElem?_map, List.getElem?_range h, List.getElem?_eq_getElem h]
    show some ((wc ++ wr)[i]?) = some (some wc[i])
    rw [List.getElem?_append_left h, List.getElem?_eq_getElem h]
  · rw [List.getElem?_eq_none (by simpa using h), List.getElem?_eq_none (by simpa using h)]
theorem is_R (wc wr : va_W) : ((List.range wr.length).map (fun i => wc.length + i)).map (fun i => (wc ++ wr)[i]?) = wr.map some := by
  apply List.ext_getElem?
  intro i
  by_cases h : i < wr.length
  · rw [List.getElem?_map, List.getElem?_map, List.getElem?_map, List.getElem?_range h, List.getElem?_eq_getElem h]
    show some ((wc ++ wr)[wc.length + i]?) = some (some wr[i])
    rw [List.getElem?_append_right (by omega), show wc.length + i - wc.length = i by omega, List.getElem?_eq_getElem h]
  · rw [List.getElem?_eq_none (by simpa using h), List.getElem?_eq_none (by simpa using h)]
theorem is_dis (n k : Nat) : ∀ i ∈ (List.range k).map (fun i => n + i), i ∉ List.range n := by
  intro i hi
  obtain ⟨j, -, rfl⟩ := List.mem_map.mp hi
  rw [List.mem_range]; omega
theorem j_perm (hp : ws.Perm ws') (kk : j_V p l e R s m args below meth c Q G nL A k9 q9 ws' pc lo st) : j_V p l e R s m args below meth c Q G nL A k9 q9 ws pc lo st := fun H locs ls hP hD hS h => kk H locs ls (P_mem (fun q hq => hp.mem_iff.mpr hq) hP) (w_perm hp hD) hS h
theorem j_sublist (hs : ws'.Sublist ws) (kk : j_V p l e R s m args below meth c Q G nL A k9 q9 ws' pc lo st) : j_V p l e R s m args below meth c Q G nL A k9 q9 ws pc lo st := fun H locs ls hP hD hS h => kk H locs ls (P_mem (fun q hq => hs.subset hq) hP) (w_sublist hs hD) hS h
theorem j_lload (X : j_X p s m args meth c cc nL own Ts rt G tys) {i : Nat} {x : Int64} (q : Nat) (hd : decode cc pc = .ok (.lload i, 2)) (hl : lo[q]? = some (i, .long x)) (kk : j_V p l e R s m args below meth c Q G nL A k9 q9 ws (pc + 2) lo (.long x :: st)) : j_V p l e R s m args below meth c Q G nL A k9 q9 ws pc lo st := fun H locs ls hP hD hS h => lv_lload X.1.1 X.1.2.1 hd (lv_at h q hl) (kk H locs ls hP hD hS h)
theorem j_lstore (X : j_X p s m args meth c cc nL own Ts rt G tys) {i : Nat} {x : Int64} (hd : decode cc pc = .ok (.lstore i, 2)) (hn : i + 1 < nL) (hl : (i, Value.long x) :: lo.filter (fun q => !(q.1 == i) && (!(q.1 == i + 1) && !(q.1 + 1 == i && q.2.category == 2))) = lo') (kk : j_V p l e R s m args below meth c Q G nL A k9 q9 ws (pc + 2) lo' st) : j_V p l e R s m args below meth c Q G nL A k9 q9 ws pc lo (.long x :: st) := fun H locs ls hP hD hS h => lv_lstore X.1.1 X.1.2.1 hd h hn hl (fun ls' h' => kk H locs ls' hP hD hS h')
theorem j_lcmp (X : j_X p s m args meth c cc nL own Ts rt G tys) {x y : Int64} (hd : decode cc pc = .ok (.lcmp, 1)) (kk : j_V p l e R s m args below meth c Q G nL A k9 q9 ws (pc + 1) lo (.int (lg_cmp x y) :: st)) : j_V p l e R s m args below meth c Q G nL A k9 q9 ws pc lo (.long y :: .long x :: st) := fun H locs ls hP hD hS h => W.lcmp X.1.1 X.1.2.1 hd (kk H locs ls hP hD hS h)
theorem p_callSI (X : j_X p s m args meth c cc nL own Ts rt G tys) (hA : ∀ q, s.heap.size ≤ q → A q) (hZ : j_Z K A s s.heap) {β : Type} {y : MethodName} {bytes : ByteArray} {maxL idx mk ms : Nat} {ret : Option FieldType} {w9 w9' : List Cond} {rm : Room} {post : Int32 → β → Prop} {wf : β → va_W} (wc wr : va_W) (wo : β → va_W) (hp : ws.Perm (wc ++ wr)) (ho : ∀ u : β, (wr ++ wf u).Perm (wo u)) (As : List Value) (hM : jI l G K tys y w9 rm wc As mk ms post wf) (n : Nat) (hn : As.length = n) (hT : GoodIn Ts (va_wsS own idx y w9)) (hw : w9 = Cond.code y bytes maxL ret :: w9') (hrm : rm.cells = mk ∧ rm.slots = ms) (hy : y.cls ≠ "java/lang/invoke/MethodHandle" ∧ y.cls ≠ "java/lang/invoke/VarHandle" ∧ (parseMethodDescriptor y.desc).map (fun d => d.parameters.length) = some n) (hR : rm.frames + 1 ≤ R.frames ∧ 8 + (maxL + 11) + rm.locals ≤ R.locals) {stk : List Value} (hst : stk = As.reverse) (hW : (rest.map fun v => v.category).sum ≤ 8) (hf : k9 + mk ≤ R.cells ∧ q9 + ms ≤ R.slots) (hd : decode cc pc = .ok (.invokestatic idx, 3)) (kk : ∀ (r : Int32) (u : β), post r u → j_V p l e R s m args below meth c Q G nL A (k9 + mk) (q9 + ms) (wo u) (pc + 3) lo (.int r :: rest)) : j_V p l e R s m args below meth c Q G nL A k9 q9 ws pc lo (stk ++ rest) :=
  j_perm hp (j_callSI X hA hZ (List.range wc.length) ((List.range wr.length).map (fun i => wc.length + i)) (is_C wc wr) (is_R wc wr) (nd_of _ List.nodup_range) (nd_of _ (nd_add _ List.nodup_range)) (is_dis _ _) As hM n hn hT hw hrm hy hR hst hW hf hd (fun r u hp9 => j_perm (ho u) (kk r u hp9)))
theorem p_callSU (X : j_X p s m args meth c cc nL own Ts rt G tys) (hA : ∀ q, s.heap.size ≤ q → A q) (hZ : j_Z K A s s.heap) {β : Type} {y : MethodName} {bytes : ByteArray} {maxL idx mk ms : Nat} {ret : Option FieldType} {w9 w9' : List Cond} {rm : Room} {post : β → Prop} {wf : β → va_W} (wc wr : va_W) (wo : β → va_W) (hp : ws.Perm (wc ++ wr)) (ho : ∀ u : β, (wr ++ wf u).Perm (wo u)) (As : List Value) (hM : jU l G K tys y w9 rm wc As mk ms post wf) (n : Nat) (hn : As.length = n) (hT : GoodIn Ts (va_wsS own idx y w9)) (hw : w9 = Cond.code y bytes maxL ret :: w9') (hrm : rm.cells = mk ∧ rm.slots = ms) (hy : y.cls ≠ "java/lang/invoke/MethodHandle" ∧ y.cls ≠ "java/lang/invoke/VarHandle" ∧ (parseMethodDescriptor y.desc).map (fun d => d.parameters.length) = some n) (hR : rm.frames + 1 ≤ R.frames ∧ 8 + (maxL + 11) + rm.locals ≤ R.locals) {stk : List Value} (hst : stk = As.reverse) (hW : (rest.map fun v => v.category).sum ≤ 8) (hf : k9 + mk ≤ R.cells ∧ q9 + ms ≤ R.slots) (hd : decode cc pc = .ok (.invokestatic idx, 3)) (kk : ∀ (u : β), post u → j_V p l e R s m args below meth c Q G nL A (k9 + mk) (q9 + ms) (wo u) (pc + 3) lo rest) : j_V p l e R s m args below meth c Q G nL A k9 q9 ws pc lo (stk ++ rest) :=
  j_perm hp (j_callSU X hA hZ (List.range wc.length) ((List.range wr.length).map (fun i => wc.length + i)) (is_C wc wr) (is_R wc wr) (nd_of _ List.nodup_range) (nd_of _ (nd_add _ List.nodup_range)) (is_dis _ _) As hM n hn hT hw hrm hy hR hst hW hf hd (fun u hp9 => j_perm (ho u) (kk u hp9)))
theorem p_callSR (X : j_X p s m args meth c cc nL own Ts rt G tys) (hA : ∀ q, s.heap.size ≤ q → A q) (hZ : j_Z K A s s.heap) {β : Type} {y : MethodName} {bytes : ByteArray} {maxL idx mk ms : Nat} {ret : Option FieldType} {w9 w9' : List Cond} {rm : Room} {post : β → Nat → Prop} {wf : β → Nat → va_W} (wc wr : va_W) (wo : β → Nat → va_W) (hp : ws.Perm (wc ++ wr)) (ho : ∀ (u : β) (a : Nat), (wr ++ wf u a).Perm (wo u a)) (As : List Value) (hM : jR l G K tys y w9 rm wc As mk ms post wf) (n : Nat) (hn : As.length = n) (hT : GoodIn Ts (va_wsS own idx y w9)) (hw : w9 = Cond.code y bytes maxL ret :: w9') (hrm : rm.cells = mk ∧ rm.slots = ms) (hy : y.cls ≠ "java/lang/invoke/MethodHandle" ∧ y.cls ≠ "java/lang/invoke/VarHandle" ∧ (parseMethodDescriptor y.desc).map (fun d => d.parameters.length) = some n) (hR : rm.frames + 1 ≤ R.frames ∧ 8 + (maxL + 11) + rm.locals ≤ R.locals) {stk : List Value} (hst : stk = As.reverse) (hW : (rest.map fun v => v.category).sum ≤ 8) (hf : k9 + mk ≤ R.cells ∧ q9 + ms ≤ R.slots) (hd : decode cc pc = .ok (.invokestatic idx, 3)) (kk : ∀ (u : β) (ra : Nat), post u ra → j_V p l e R s m args below meth c Q G nL A (k9 + mk) (q9 + ms) (wo u ra) (pc + 3) lo (.ref ra :: rest)) : j_V p l e R s m args below meth c Q G nL A k9 q9 ws pc lo (stk ++ rest) :=
  j_perm hp (j_callSR X hA hZ (List.range wc.length) ((List.range wr.length).map (fun i => wc.length + i)) (is_C wc wr) (is_R wc wr) (nd_of _ List.nodup_range) (nd_of _ (nd_add _ List.nodup_range)) (is_dis _ _) As hM n hn hT hw hrm hy hR hst hW hf hd (fun u ra hp9 => j_perm (ho u ra) (kk u ra hp9)))
theorem p_callVI (X : j_X p s m args meth c cc nL own Ts rt G tys) (hA : ∀ q, s.heap.size ≤ q → A q) (hZ : j_Z K A s s.heap) {β : Type} {y : MethodName} {bytes : ByteArray} {maxL idx mk ms : Nat} {ret : Option FieldType} {w9 w9' : List Cond} {rm : Room} {post : Int32 → β → Prop} {wf : β → va_W} (wc wr : va_W) (wo : β → va_W) (hp : ws.Perm (wc ++ wr)) (ho : ∀ u : β, (wr ++ wf u).Perm (wo u)) (As : List Value) {b ci : Nat} {fs : List Value} {C : String} {T : u_T} {N : Nat} (qb : Nat) (he : (wc ++ wr)[qb]? = some (b, .inr (ci, fs))) (hcl : vwCl[ci]? = some (C, T, N)) (hM : jI l G K tys y w9 rm wc (.ref b :: As) mk ms post wf) (n : Nat) (hn : As.length = n) (hT : GoodIn Ts (wsV own idx C y w9)) (hw : w9 = Cond.code y bytes maxL ret :: w9') (hrm : rm.cells = mk ∧ rm.slots = ms) (hy : y.cls = C ∧ y.cls ≠ "java/lang/invoke/MethodHandle" ∧ y.cls ≠ "java/lang/invoke/VarHandle" ∧ (parseMethodDescriptor y.desc).map (fun d => d.parameters.length) = some n) (hR : rm.frames + 1 ≤ R.frames ∧ 8 + (maxL + 11) + rm.locals ≤ R.locals) {stk : List Value} (hst : stk = As.reverse ++ [.ref b]) (hW : (rest.map fun v => v.category).sum ≤ 8) (hf : k9 + mk ≤ R.cells ∧ q9 + ms ≤ R.slots) (hd : decode cc pc = .ok (.invokevirtual idx, 3)) (kk : ∀ (r : Int32) (u : β), post r u → j_V p l e R s m args below meth c Q G nL A (k9 + mk) (q9 + ms) (wo u) (pc + 3) lo (.int r :: rest)) : j_V p l e R s m args below meth c Q G nL A k9 q9 ws pc lo (stk ++ rest) :=
  j_perm hp (j_callVI X hA hZ (List.range wc.length) ((List.range wr.length).map (fun i => wc.length + i)) (is_C wc wr) (is_R wc wr) (nd_of _ List.nodup_range) (nd_of _ (nd_add _ List.nodup_range)) (is_dis _ _) As qb he hcl hM n hn hT hw hrm hy hR hst hW hf hd (fun r u hp9 => j_perm (ho u) (kk r u hp9)))
theorem p_callVU (X : j_X p s m args meth c cc nL own Ts rt G tys) (hA : ∀ q, s.heap.size ≤ q → A q) (hZ : j_Z K A s s.heap) {β : Type} {y : MethodName} {bytes : ByteArray} {maxL idx mk ms : Nat} {ret : Option FieldType} {w9 w9' : List Cond} {rm : Room} {post : β → Prop} {wf : β → va_W} (wc wr : va_W) (wo : β → va_W) (hp : ws.Perm (wc ++ wr)) (ho : ∀ u : β, (wr ++ wf u).Perm (wo u)) (As : List Value) {b ci : Nat} {fs : List Value} {C : String} {T : u_T} {N : Nat} (qb : Nat) (he : (wc ++ wr)[qb]? = some (b, .inr (ci, fs))) (hcl : vwCl[ci]? = some (C, T, N)) (hM : jU l G K tys y w9 rm wc (.ref b :: As) mk ms post wf) (n : Nat) (hn : As.length = n) (hT : GoodIn Ts (wsV own idx C y w9)) (hw : w9 = Cond.code y bytes maxL ret :: w9') (hrm : rm.cells = mk ∧ rm.slots = ms) (hy : y.cls = C ∧ y.cls ≠ "java/lang/invoke/MethodHandle" ∧ y.cls ≠ "java/lang/invoke/VarHandle" ∧ (parseMethodDescriptor y.desc).map (fun d => d.parameters.length) = some n) (hR : rm.frames + 1 ≤ R.frames ∧ 8 + (maxL + 11) + rm.locals ≤ R.locals) {stk : List Value} (hst : stk = As.reverse ++ [.ref b]) (hW : (rest.map fun v => v.category).sum ≤ 8) (hf : k9 + mk ≤ R.cells ∧ q9 + ms ≤ R.slots) (hd : decode cc pc = .ok (.invokevirtual idx, 3)) (kk : ∀ (u : β), post u → j_V p l e R s m args below meth c Q G nL A (k9 + mk) (q9 + ms) (wo u) (pc + 3) lo rest) : j_V p l e R s m args below meth c Q G nL A k9 q9 ws pc lo (stk ++ rest) :=
  j_perm hp (j_callVU X hA hZ (List.range wc.length) ((List.range wr.length).map (fun i => wc.length + i)) (is_C wc wr) (is_R wc wr) (nd_of _ List.nodup_range) (nd_of _ (nd_add _ List.nodup_range)) (is_dis _ _) As qb he hcl hM n hn hT hw hrm hy hR hst hW hf hd (fun u hp9 => j_perm (ho u) (kk u hp9)))
theorem p_callVR (X : j_X p s m args meth c cc nL own Ts rt G tys) (hA : ∀ q, s.heap.size ≤ q → A q) (hZ : j_Z K A s s.heap) {β : Type} {y : MethodName} {bytes : ByteArray} {maxL idx mk ms : Nat} {ret : Option FieldType} {w9 w9' : List Cond} {rm : Room} {post : β → Nat → Prop} {wf : β → Nat → va_W} (wc wr : va_W) (wo : β → Nat → va_W) (hp : ws.Perm (wc ++ wr)) (ho : ∀ (u : β) (a : Nat), (wr ++ wf u a).Perm (wo u a)) (As : List Value) {b ci : Nat} {fs : List Value} {C : String} {T : u_T} {N : Nat} (qb : Nat) (he : (wc ++ wr)[qb]? = some (b, .inr (ci, fs))) (hcl : vwCl[ci]? = some (C, T, N)) (hM : jR l G K tys y w9 rm wc (.ref b :: As) mk ms post wf) (n : Nat) (hn : As.length = n) (hT : GoodIn Ts (wsV own idx C y w9)) (hw : w9 = Cond.code y bytes maxL ret :: w9') (hrm : rm.cells = mk ∧ rm.slots = ms) (hy : y.cls = C ∧ y.cls ≠ "java/lang/invoke/MethodHandle" ∧ y.cls ≠ "java/lang/invoke/VarHandle" ∧ (parseMethodDescriptor y.desc).map (fun d => d.parameters.length) = some n) (hR : rm.frames + 1 ≤ R.frames ∧ 8 + (maxL + 11) + rm.locals ≤ R.locals) {stk : List Value} (hst : stk = As.reverse ++ [.ref b]) (hW : (rest.map fun v => v.category).sum ≤ 8) (hf : k9 + mk ≤ R.cells ∧ q9 + ms ≤ R.slots) (hd : decode cc pc = .ok (.invokevirtual idx, 3)) (kk : ∀ (u : β) (ra : Nat), post u ra → j_V p l e R s m args below meth c Q G nL A (k9 + mk) (q9 + ms) (wo u ra) (pc + 3) lo (.ref ra :: rest)) : j_V p l e R s m args below meth c Q G nL A k9 q9 ws pc lo (stk ++ rest) :=
  j_perm hp (j_callVR X hA hZ (List.range wc.length) ((List.range wr.length).map (fun i => wc.length + i)) (is_C wc wr) (is_R wc wr) (nd_of _ List.nodup_range) (nd_of _ (nd_add _ List.nodup_range)) (is_dis _ _) As qb he hcl hM n hn hT hw hrm hy hR hst hW hf hd (fun u ra hp9 => j_perm (ho u ra) (kk u ra hp9)))
theorem p_callIU (X : j_X p s m args meth c cc nL own Ts rt G tys) (hA : ∀ q, s.heap.size ≤ q → A q) (hZ : j_Z K A s s.heap) {β : Type} {y : MethodName} {bytes : ByteArray} {maxL idx mk ms : Nat} {w9 w9' : List Cond} {rm : Room} {post : β → Prop} {wf : β → va_W} (wc wr : va_W) (wo : β → va_W) (hp : ws.Perm (wc ++ wr)) (ho : ∀ u : β, (wr ++ wf u).Perm (wo u)) (As : List Value) {b : Nat} (hM : jU l G K tys y w9 rm wc (.ref b :: As) mk ms post wf) (n : Nat) (hn : As.length = n) (hlink : Cond.methodLink own idx y ∈ Ts) (hT : GoodIn Ts w9) (hini : Cond.initialized y.cls ∈ Ts) (hins : Cond.instanceMethod y ∈ Ts) (hyn : y.name = "<init>") (hw : w9 = Cond.code y bytes maxL none :: w9') (hrm : rm.cells = mk ∧ rm.slots = ms) (hy : y.cls ≠ "java/lang/invoke/MethodHandle" ∧ y.cls ≠ "java/lang/invoke/VarHandle" ∧ (parseMethodDescriptor y.desc).map (fun d => d.parameters.length) = some n) (hR : rm.frames + 1 ≤ R.frames ∧ 8 + (maxL + 11) + rm.locals ≤ R.locals) {stk : List Value} (hst : stk = As.reverse ++ [.ref b]) (hW : (rest.map fun v => v.category).sum ≤ 8) (hf : k9 + mk ≤ R.cells ∧ q9 + ms ≤ R.slots) (hd : decode cc pc = .ok (.invokespecial idx, 3)) (kk : ∀ (u : β), post u → j_V p l e R s m args below meth c Q G nL A (k9 + mk) (q9 + ms) (wo u) (pc + 3) lo rest) : j_V p l e R s m args below meth c Q G nL A k9 q9 ws pc lo (stk ++ rest) :=
  j_perm hp (j_callIU X hA hZ (List.range wc.length) ((List.range wr.length).map (fun i => wc.length + i)) (is_C wc wr) (is_R wc wr) (nd_of _ List.nodup_range) (nd_of _ (nd_add _ List.nodup_range)) (is_dis _ _) As hM n hn hlink hT hini hins hyn hw hrm hy hR hst hW hf hd (fun u hp9 => j_perm (ho u) (kk u hp9)))
theorem z_live {S : zS} {H : Heap} (hP : va_P G vwCl (z_w cI cZ cT o S) H) : o + 97 ≤ H.size := by
  have h := hP 96 _ (z_w_get cI cZ cT o S (by decide))
  rw [zc_96] at h
  have h : H[o + 96]? = some _ := h
  have := (Array.getElem?_eq_some_iff.mp h).1
  omega
theorem z_A_va {sz : Nat} (S : zS) {q : Nat} (h : z_A o sz q) : va_A (z_w cI cZ cT o S) sz q := by
  rcases h with ⟨h1, h2⟩ | h
  · exact Or.inl ⟨q - o, z_cell cI cZ cT o S (q - o), by rw [z_w_get _ _ _ _ _ (by omega), show o + (q - o) = q by omega]⟩
  · exact Or.inr h
theorem va_A_z {sz : Nat} {S : zS} {q : Nat} (h : va_A (z_w cI cZ cT o S) sz q) : z_A o sz q := by
  rcases h with ⟨k, e, h⟩ | h
  · obtain ⟨h1, h2⟩ := z_w_lt h
    cases h2
    exact Or.inl ⟨by omega, by omega⟩
  · exact Or.inr h
theorem z_join {more : va_W} {S u : zS} {H H1 : Heap} (hP : va_P G vwCl (more ++ z_w cI cZ cT o S) H) (hD : va_D A (more ++ z_w cI cZ cT o S)) (hFA : ∀ q, z_A o H.size q → A q) (hk : ∀ q : Nat, q < H.size → ¬ z_A o H.size q → H1[q]? = H[q]?) (hB : va_P G vwCl (z_w cI cZ cT o u) H1) : va_P G vwCl (more ++ z_w cI cZ cT o u) H1 ∧ va_D A (more ++ z_w cI cZ cT o u) := by
  have hp : (more ++ z_w cI cZ cT o S).Perm (z_w cI cZ cT o S ++ more) := List.perm_append_comm
  refine va_join (ws := z_w cI cZ cT o S ++ more) (wc := z_w cI cZ cT o S) (wr := more) (w1 := z_w cI cZ cT o u) (H := H) (P_mem (fun q hq => hp.mem_iff.mpr hq) hP) (w_perm hp hD) (List.range (z_w cI cZ cT o S).length) ((List.range more.length).map (fun i => (z_w cI cZ cT o S).length + i)) (is_C _ _) (is_R _ _) (nd_of _ (nd_add _ List.nodup_range)) (is_dis _ _) (fun q h1 h2 => hk q h1 (fun g => h2 (z_A_va S g))) (fun q g => hFA q (va_A_z g)) hB ⟨(z_D cI cZ cT o H.size u).1, fun k q g => z_A_va S ((z_D cI cZ cT o H.size u).2 k q g)⟩
theorem z_in {more : va_W} {S : zS} (hD : va_D A (more ++ z_w cI cZ cT o S)) : ∀ q, (o ≤ q ∧ q < o + 97) → A q := fun q g => w_memA (ws' := z_w cI cZ cT o S) (fun q hq => List.mem_append_right _ hq) hD (q - o) (q, z_cell cI cZ cT o S (q - o)) (by rw [z_w_get _ _ _ _ _ (by omega), show o + (q - o) = q by omega])
theorem z_begin {more : va_W} {S : zS} {H : Heap} {locs : List Loc} (hK : va_K G vwCl (j_ty cI cZ cT cB) s) (hA : ∀ q, s.heap.size ≤ q → A q) (hZ : j_Z K A s s.heap) (hP : va_P G vwCl (more ++ z_w cI cZ cT o S) H) (hD : va_D A (more ++ z_w cI cZ cT o S)) (hS : va_S A s.heap H locs) (av : List Value) : (∀ q, z_A o H.size q → A q) ∧ va_P G vwCl (z_w cI cZ cT o S) H ∧ ∀ U : State, U.heap = H → s.WarmedH U.vm → z_Pc G cI cZ cT o H.size S av av.toArray U := by
  obtain ⟨b0, hb, ⟨t, hz1, hz2⟩, -⟩ := hZ.2.2.2.2
  have hPz : va_P G vwCl (z_w cI cZ cT o S) H := P_mem (fun q hq => List.mem_append_right _ hq) hP
  have hin := z_in hD
  have hbo : b0 ≤ o := hb o (hin o ⟨Nat.le_refl o, by omega⟩)
  have hq : ∀ a : Nat, a < s.heap.size → ¬ b0 ≤ a → H[a]? = s.heap[a]? := fun a g1 g2 => hS.2.1 a g1 (fun q => g2 (hb a q))
  have hzo : z_Z o s H := ⟨t, (hz1.kept hq).narrow (fun q g => Nat.le_trans hbo g), (hz2.kept hq).narrow (fun q g => Nat.le_trans hbo g)⟩
  exact ⟨fun q g => g.elim (hin q) (fun g => hA q (Nat.le_trans hS.1 g)), hPz, fun U hU hW9 => ⟨rfl, by rw [hU], by rw [hU]; exact hPz, va_K.moved hW9.alike (hK.sub (tys' := z_ty cI cZ cT) [0, 1, 2] rfl), z_N.warm hW9 hZ.2.1, by rw [hU]; exact hzo.alike hW9.alike, by rw [hU]; exact z_live hPz⟩⟩
theorem j_callZI (X : j_X p s m args meth c cc nL own Ts rt G (j_ty cI cZ cT cB)) (hA : ∀ q, s.heap.size ≤ q → A q) (hZ : j_Z K A s s.heap) {y : MethodName} {bytes : ByteArray} {maxL idx : Nat} {ret : Option FieldType} {w9 w9' : List Cond} {rm : Room} {post : Int32 → zS → Prop} (more : va_W) {S : zS} (As : List Value) (hM : zI l G cI cZ cT o y w9 rm (.ref (o + 0) :: As) S post) (n : Nat) (hn : As.length = n) (hT : GoodIn Ts (wsV own idx RX5 y w9)) (hw : w9 = Cond.code y bytes maxL ret :: w9') (hrm : rm.cells = 0 ∧ rm.slots = 0) (hy : y.cls = RX5 ∧ y.cls ≠ "java/lang/invoke/MethodHandle" ∧ y.cls ≠ "java/lang/invoke/VarHandle" ∧ (parseMethodDescriptor y.desc).map (fun d => d.parameters.length) = some n) (hR : rm.frames + 1 ≤ R.frames ∧ 8 + (maxL + 11) + rm.locals ≤ R.locals) {stk : List Value} (hst : stk = As.reverse ++ [.ref o]) (hW : (rest.map fun v => v.category).sum ≤ 8) (hf : k9 ≤ R.cells ∧ q9 ≤ R.slots) (hd : decode cc pc = .ok (.invokevirtual idx, 3)) (kk : ∀ (r : Int32) (u : zS), post r u → j_V p l e R s m args below meth c Q G nL A k9 q9 (more ++ z_w cI cZ cT o u) (pc + 3) lo (.int r :: rest)) : j_V p l e R s m args below meth c Q G nL A k9 q9 (more ++ z_w cI cZ cT o S) pc lo (stk ++ rest) := fun H locs ls hP hD hS h => by
  subst hst
  obtain ⟨hFA, hPz, start⟩ := z_begin X.2.1 hA hZ hP hD hS (.ref (o + 0) :: As)
  refine va_calli (va_runV (As := As) (rest := rest) X.1 (hM H.size) (cwV n X.1.2.2.2.2 hT hw hrm.1 hrm.2 hy hR) ⟨z_blind G cI cZ cT o H.size S _, va_recv X.2.1 hPz (ci := 5) (q0 := 0) rfl (by rw [z_w_get cI cZ cT o S (j := 0) (by decide), zc_X]), start⟩ rfl hn h.1 (by simp [F0]) (lv_room hW) hd hf) hS (fun q _ g => hFA q g) hFA (fun r u t H1 locs1 ht hvm hp9 hB hz1 hk1 hS1 => ?_)
  have hB1 : va_P G vwCl (z_w cI cZ cT o u) H1 := by
    have h9 : va_P G vwCl (z_w cI cZ cT o u) t.heap := hB
    rw [ht] at h9; exact h9
  obtain ⟨j1, j2⟩ := z_join hP hD hFA hk1 hB1
  exact kk r u hp9 H1 locs1 ls j1 j2 hS1 h
theorem j_callZU (X : j_X p s m args meth c cc nL own Ts rt G (j_ty cI cZ cT cB)) (hA : ∀ q, s.heap.size ≤ q → A q) (hZ : j_Z K A s s.heap) {y : MethodName} {bytes : ByteArray} {maxL idx : Nat} {ret : Option FieldType} {w9 w9' : List Cond} {rm : Room} {post : zS → Prop} (more : va_W) {S : zS} (As : List Value) (hM : zU l G cI cZ cT o y w9 rm (.ref (o + 0) :: As) S post) (n : Nat) (hn : As.length = n) (hT : GoodIn Ts (wsV own idx RX5 y w9)) (hw : w9 = Cond.code y bytes maxL ret :: w9') (hrm : rm.cells = 0 ∧ rm.slots = 0) (hy : y.cls = RX5 ∧ y.cls ≠ "java/lang/invoke/MethodHandle" ∧ y.cls ≠ "java/lang/invoke/VarHandle" ∧ (parseMethodDescriptor y.desc).map (fun d => d.parameters.length) = some n) (hR : rm.frames + 1 ≤ R.frames ∧ 8 + (maxL + 11) + rm.locals ≤ R.locals) {stk : List Value} (hst : stk = As.reverse ++ [.ref o]) (hW : (rest.map fun v => v.category).sum ≤ 8) (hf : k9 ≤ R.cells ∧ q9 ≤ R.slots) (hd : decode cc pc = .ok (.invokevirtual idx, 3)) (kk : ∀ (u : zS), post u → j_V p l e R s m args below meth c Q G nL A k9 q9 (more ++ z_w cI cZ cT o u) (pc + 3) lo (rest)) : j_V p l e R s m args below meth c Q G nL A k9 q9 (more ++ z_w cI cZ cT o S) pc lo (stk ++ rest) := fun H locs ls hP hD hS h => by
  subst hst
  obtain ⟨hFA, hPz, start⟩ := z_begin X.2.1 hA hZ hP hD hS (.ref (o + 0) :: As)
  refine va_callv (va_runV (As := As) (rest := rest) X.1 (hM H.size) (cwV n X.1.2.2.2.2 hT hw hrm.1 hrm.2 hy hR) ⟨z_blind G cI cZ cT o H.size S _, va_recv X.2.1 hPz (ci := 5) (q0 := 0) rfl (by rw [z_w_get cI cZ cT o S (j := 0) (by decide), zc_X]), start⟩ rfl hn h.1 (by simp [F0]) (lv_room hW) hd hf) hS (fun q _ g => hFA q g) hFA (fun u t H1 locs1 ht hvm hp9 hB hz1 hk1 hS1 => ?_)
  have hB1 : va_P G vwCl (z_w cI cZ cT o u) H1 := by
    have h9 : va_P G vwCl (z_w cI cZ cT o u) t.heap := hB
    rw [ht] at h9; exact h9
  obtain ⟨j1, j2⟩ := z_join hP hD hFA hk1 hB1
  exact kk u hp9 H1 locs1 ls j1 j2 hS1 h
theorem j_callZL (X : j_X p s m args meth c cc nL own Ts rt G (j_ty cI cZ cT cB)) (hA : ∀ q, s.heap.size ≤ q → A q) (hZ : j_Z K A s s.heap) {y : MethodName} {bytes : ByteArray} {maxL idx : Nat} {ret : Option FieldType} {w9 w9' : List Cond} {rm : Room} {post : Int64 → zS → Prop} (more : va_W) {S : zS} (As : List Value) (hM : zL l G cI cZ cT o y w9 rm (.ref (o + 0) :: As) S post) (n : Nat) (hn : As.length = n) (hT : GoodIn Ts (wsV own idx RX5 y w9)) (hw : w9 = Cond.code y bytes maxL ret :: w9') (hrm : rm.cells = 0 ∧ rm.slots = 0) (hy : y.cls = RX5 ∧ y.cls ≠ "java/lang/invoke/MethodHandle" ∧ y.cls ≠ "java/lang/invoke/VarHandle" ∧ (parseMethodDescriptor y.desc).map (fun d => d.parameters.length) = some n) (hR : rm.frames + 1 ≤ R.frames ∧ 8 + (maxL + 11) + rm.locals ≤ R.locals) {stk : List Value} (hst : stk = As.reverse ++ [.ref o]) (hW : (rest.map fun v => v.category).sum ≤ 8) (hf : k9 ≤ R.cells ∧ q9 ≤ R.slots) (hd : decode cc pc = .ok (.invokevirtual idx, 3)) (kk : ∀ (r : Int64) (u : zS), post r u → j_V p l e R s m args below meth c Q G nL A k9 q9 (more ++ z_w cI cZ cT o u) (pc + 3) lo (.long r :: rest)) : j_V p l e R s m args below meth c Q G nL A k9 q9 (more ++ z_w cI cZ cT o S) pc lo (stk ++ rest) := fun H locs ls hP hD hS h => by
  subst hst
  obtain ⟨hFA, hPz, start⟩ := z_begin X.2.1 hA hZ hP hD hS (.ref (o + 0) :: As)
  refine va_calll (va_runV (As := As) (rest := rest) X.1 (hM H.size) (cwV n X.1.2.2.2.2 hT hw hrm.1 hrm.2 hy hR) ⟨z_blind G cI cZ cT o H.size S _, va_recv X.2.1 hPz (ci := 5) (q0 := 0) rfl (by rw [z_w_get cI cZ cT o S (j := 0) (by decide), zc_X]), start⟩ rfl hn h.1 (by simp [F0]) (lv_room hW) hd hf) hS (fun q _ g => hFA q g) hFA (fun r u t H1 locs1 ht hvm hp9 hB hz1 hk1 hS1 => ?_)
  have hB1 : va_P G vwCl (z_w cI cZ cT o u) H1 := by
    have h9 : va_P G vwCl (z_w cI cZ cT o u) t.heap := hB
    rw [ht] at h9; exact h9
  obtain ⟨j1, j2⟩ := z_join hP hD hFA hk1 hB1
  exact kk r u hp9 H1 locs1 ls j1 j2 hS1 h
/-- a new object of the class, its constructor: the first cell that the method makes -/
theorem j_callZN (X : j_X p s m args meth c cc nL own Ts rt G (j_ty cI cZ cT cB)) (hA : ∀ q, s.heap.size ≤ q → A q) (hA2 : ∀ q, A q → s.heap.size ≤ q) (hZ : j_Z K A s s.heap) {b maxL idx : Nat} {bytes : ByteArray} {w9' : List Cond} (hlink : Cond.methodLink own idx yX5_init ∈ Ts) (hT : GoodIn Ts wsX5_init) (hini : Cond.initialized yX5_init.cls ∈ Ts) (hins : Cond.instanceMethod yX5_init ∈ Ts) (hw : wsX5_init = Cond.code yX5_init bytes maxL none :: w9') (hy : yX5_init.cls ≠ "java/lang/invoke/MethodHandle" ∧ yX5_init.cls ≠ "java/lang/invoke/VarHandle" ∧ (parseMethodDescriptor yX5_init.desc).map (fun d => d.parameters.length) = some 0) (hR : 3 + 1 ≤ R.frames ∧ 8 + (maxL + 11) + 64 ≤ R.locals) (hW : (rest.map fun v => v.category).sum ≤ 8) (hf : 1 + 96 ≤ R.cells ∧ q9 + 4408 ≤ R.slots) (hd : decode cc pc = .ok (.invokespecial idx, 3)) (kk : j_V p l e R s m args below meth c Q G nL A (1 + 96) (q9 + 4408) (z_w cI cZ cT b z_S0) (pc + 3) lo rest) : j_V p l e R s m args below meth c Q G nL A 1 q9 [(b, .inr (5, [.null, .null, .int 0, .null, .null, .null]))] pc lo (.ref b :: rest) := fun H locs ls hP hD hS h => y_sz fun hz => by
  have hlive : b < H.size := by
    obtain ⟨q', h1, cell, g1, g2⟩ := hP 0 _ rfl
    exact (Array.getElem?_eq_some_iff.mp g1).1
  have hb : s.heap.size ≤ b := hA2 b (hD.2 0 _ rfl)
  have hH : H.size = b + 1 := by omega
  have hFA : ∀ x, y_A b H.size x → A x := fun x hx => by
    rcases hx with hx | hx
    · exact hA x (by omega)
    · exact hA x (Nat.le_trans hS.1 hx)
  refine va_callv (va_runI (As := []) (rest := rest) X.1 (y_X5_init l G cI cZ cT b H.size) (cwI 0 X.1.2.2.2.2 hT hw rfl rfl (X.1.2.2.2.2 _ hini) (X.1.2.2.2.2 _ hlink) (X.1.2.2.2.2 _ hins) rfl hy hR) ⟨y_blind G cI cZ cT _ _ _, fun U hU hW9 => ⟨rfl, by rw [hU], by rw [hU]; exact hP, va_K.moved hW9.alike (X.2.1.sub (tys' := z_ty cI cZ cT) [0, 1, 2] rfl), y_N.warm hW9 hZ.2.2.1⟩⟩ rfl rfl h.1 rfl (lv_room hW) hd hf) hS (fun x _ g => hFA x g) hFA (fun u t H1 locs1 ht hvm hw9 hB hz1 hk1 hS1 => ?_)
  have h9 : va_P G vwCl (z_w cI cZ cT b z_S0) H1 := by
    have h8 := hB
    rw [ht, hH] at h8
    have e := w_init cI cZ cT b
    exact e ▸ h8
  exact kk H1 locs1 ls h9 ⟨(z_D cI cZ cT b H1.size z_S0).1, fun k q g => by
    obtain ⟨h1, rfl⟩ := z_w_lt g
    exact hA _ (by show s.heap.size ≤ b + k; omega)⟩ hS1 h
theorem j_ishrA (X : j_X p s m args meth c cc nL own Ts rt G tys) {x y : Int32} (hd : decode cc pc = .ok (.ishr, 1)) (kk : ∀ z : Int32, j_V p l e R s m args below meth c Q G nL A k9 q9 ws (pc + 1) lo (.int z :: st)) : j_V p l e R s m args below meth c Q G nL A k9 q9 ws pc lo (.int y :: .int x :: st) := j_ishr X hd (kk _)
theorem j_eq (hw : ws = ws') (hl : lo = lo') (kk : j_V p l e R s m args below meth c Q G nL A k9 q9 ws' pc lo' st) : j_V p l e R s m args below meth c Q G nL A k9 q9 ws pc lo st := hw ▸ hl ▸ kk
theorem nil_perm (ws : va_W) : (ws ++ []).Perm ws := by simp
theorem nI_dec (a : Nat) (h : 0 < a) : nI a + Int32.ofInt (-1) = nI (a - 1) := by
  have e : Int32.ofInt (-1) = -(nI 1) := by decide
  rw [e, ← Int32.sub_eq_add_neg]; exact pk_sub h
theorem j_callZIf (X : j_X p s m args meth c cc nL own Ts rt G (j_ty cI cZ cT cB)) (hA : ∀ q, s.heap.size ≤ q → A q) (hZ : j_Z K A s s.heap) {y : MethodName} {bytes : ByteArray} {maxL idx : Nat} {ret : Option FieldType} {w9 w9' : List Cond} {rm : Room} (more : va_W) {S S1 : zS} {r0 : Int32} (As : List Value) (hM : zI l G cI cZ cT o y w9 rm (.ref (o + 0) :: As) S (fun r u => r = r0 ∧ u = S1)) (n : Nat) (hn : As.length = n) (hT : GoodIn Ts (wsV own idx RX5 y w9)) (hw : w9 = Cond.code y bytes maxL ret :: w9') (hrm : rm.cells = 0 ∧ rm.slots = 0) (hy : y.cls = RX5 ∧ y.cls ≠ "java/lang/invoke/MethodHandle" ∧ y.cls ≠ "java/lang/invoke/VarHandle" ∧ (parseMethodDescriptor y.desc).map (fun d => d.parameters.length) = some n) (hR : rm.frames + 1 ≤ R.frames ∧ 8 + (maxL + 11) + rm.locals ≤ R.locals) {stk : List Value} (hst : stk = As.reverse ++ [.ref o]) (hW : (rest.map fun v => v.category).sum ≤ 8) (hf : k9 ≤ R.cells ∧ q9 ≤ R.slots) (hd : decode cc pc = .ok (.invokevirtual idx, 3)) (kk : j_V p l e R s m args below meth c Q G nL A k9 q9 (more ++ z_w cI cZ cT o S1) (pc + 3) lo (.int r0 :: rest)) : j_V p l e R s m args below meth c Q G nL A k9 q9 (more ++ z_w cI cZ cT o S) pc lo (stk ++ rest) :=
  j_callZI X hA hZ more As hM n hn hT hw hrm hy hR hst hW hf hd (fun r u h => by rw [h.1, h.2]; exact kk)
theorem j_callZLf (X : j_X p s m args meth c cc nL own Ts rt G (j_ty cI cZ cT cB)) (hA : ∀ q, s.heap.size ≤ q → A q) (hZ : j_Z K A s s.heap) {y : MethodName} {bytes : ByteArray} {maxL idx : Nat} {ret : Option FieldType} {w9 w9' : List Cond} {rm : Room} (more : va_W) {S S1 : zS} {r0 : Int64} (As : List Value) (hM : zL l G cI cZ cT o y w9 rm (.ref (o + 0) :: As) S (fun r u => r = r0 ∧ u = S1)) (n : Nat) (hn : As.length = n) (hT : GoodIn Ts (wsV own idx RX5 y w9)) (hw : w9 = Cond.code y bytes maxL ret :: w9') (hrm : rm.cells = 0 ∧ rm.slots = 0) (hy : y.cls = RX5 ∧ y.cls ≠ "java/lang/invoke/MethodHandle" ∧ y.cls ≠ "java/lang/invoke/VarHandle" ∧ (parseMethodDescriptor y.desc).map (fun d => d.parameters.length) = some n) (hR : rm.frames + 1 ≤ R.frames ∧ 8 + (maxL + 11) + rm.locals ≤ R.locals) {stk : List Value} (hst : stk = As.reverse ++ [.ref o]) (hW : (rest.map fun v => v.category).sum ≤ 8) (hf : k9 ≤ R.cells ∧ q9 ≤ R.slots) (hd : decode cc pc = .ok (.invokevirtual idx, 3)) (kk : j_V p l e R s m args below meth c Q G nL A k9 q9 (more ++ z_w cI cZ cT o S1) (pc + 3) lo (.long r0 :: rest)) : j_V p l e R s m args below meth c Q G nL A k9 q9 (more ++ z_w cI cZ cT o S) pc lo (stk ++ rest) :=
  j_callZL X hA hZ more As hM n hn hT hw hrm hy hR hst hW hf hd (fun r u h => by rw [h.1, h.2]; exact kk)
theorem hz_X5_cell : yX5_cell.cls = RX5 ∧ yX5_cell.cls ≠ "java/lang/invoke/MethodHandle" ∧ yX5_cell.cls ≠ "java/lang/invoke/VarHandle" ∧ (parseMethodDescriptor yX5_cell.desc).map (fun d => d.parameters.length) = some 3 := by decide +kernel
theorem hz_X5_feed : yX5_feed.cls = RX5 ∧ yX5_feed.cls ≠ "java/lang/invoke/MethodHandle" ∧ yX5_feed.cls ≠ "java/lang/invoke/VarHandle" ∧ (parseMethodDescriptor yX5_feed.desc).map (fun d => d.parameters.length) = some 5 := by decide +kernel
theorem hz_X5_trim : yX5_trim.cls = RX5 ∧ yX5_trim.cls ≠ "java/lang/invoke/MethodHandle" ∧ yX5_trim.cls ≠ "java/lang/invoke/VarHandle" ∧ (parseMethodDescriptor yX5_trim.desc).map (fun d => d.parameters.length) = some 1 := by decide +kernel
theorem hz_X5_map : yX5_map.cls = RX5 ∧ yX5_map.cls ≠ "java/lang/invoke/MethodHandle" ∧ yX5_map.cls ≠ "java/lang/invoke/VarHandle" ∧ (parseMethodDescriptor yX5_map.desc).map (fun d => d.parameters.length) = some 0 := by decide +kernel
theorem hz_X5_openAt : yX5_openAt.cls = RX5 ∧ yX5_openAt.cls ≠ "java/lang/invoke/MethodHandle" ∧ yX5_openAt.cls ≠ "java/lang/invoke/VarHandle" ∧ (parseMethodDescriptor yX5_openAt.desc).map (fun d => d.parameters.length) = some 2 := by decide +kernel
theorem hz_X5_come : yX5_come.cls = RX5 ∧ yX5_come.cls ≠ "java/lang/invoke/MethodHandle" ∧ yX5_come.cls ≠ "java/lang/invoke/VarHandle" ∧ (parseMethodDescriptor yX5_come.desc).map (fun d => d.parameters.length) = some 5 := by decide +kernel
theorem hz_X5_order : yX5_order.cls = RX5 ∧ yX5_order.cls ≠ "java/lang/invoke/MethodHandle" ∧ yX5_order.cls ≠ "java/lang/invoke/VarHandle" ∧ (parseMethodDescriptor yX5_order.desc).map (fun d => d.parameters.length) = some 4 := by decide +kernel
theorem hz_X5_team : yX5_team.cls = RX5 ∧ yX5_team.cls ≠ "java/lang/invoke/MethodHandle" ∧ yX5_team.cls ≠ "java/lang/invoke/VarHandle" ∧ (parseMethodDescriptor yX5_team.desc).map (fun d => d.parameters.length) = some 2 := by decide +kernel
theorem hz_X5_pass : yX5_pass.cls = RX5 ∧ yX5_pass.cls ≠ "java/lang/invoke/MethodHandle" ∧ yX5_pass.cls ≠ "java/lang/invoke/VarHandle" ∧ (parseMethodDescriptor yX5_pass.desc).map (fun d => d.parameters.length) = some 1 := by decide +kernel
theorem hz_X5_count : yX5_count.cls = RX5 ∧ yX5_count.cls ≠ "java/lang/invoke/MethodHandle" ∧ yX5_count.cls ≠ "java/lang/invoke/VarHandle" ∧ (parseMethodDescriptor yX5_count.desc).map (fun d => d.parameters.length) = some 1 := by decide +kernel
theorem hz_X5_target : yX5_target.cls = RX5 ∧ yX5_target.cls ≠ "java/lang/invoke/MethodHandle" ∧ yX5_target.cls ≠ "java/lang/invoke/VarHandle" ∧ (parseMethodDescriptor yX5_target.desc).map (fun d => d.parameters.length) = some 1 := by decide +kernel
theorem hz_X5_foresee : yX5_foresee.cls = RX5 ∧ yX5_foresee.cls ≠ "java/lang/invoke/MethodHandle" ∧ yX5_foresee.cls ≠ "java/lang/invoke/VarHandle" ∧ (parseMethodDescriptor yX5_foresee.desc).map (fun d => d.parameters.length) = some 2 := by decide +kernel
theorem hz_X5_falls : yX5_falls.cls = RX5 ∧ yX5_falls.cls ≠ "java/lang/invoke/MethodHandle" ∧ yX5_falls.cls ≠ "java/lang/invoke/VarHandle" ∧ (parseMethodDescriptor yX5_falls.desc).map (fun d => d.parameters.length) = some 2 := by decide +kernel
theorem hz_X5_digest : yX5_digest.cls = RX5 ∧ yX5_digest.cls ≠ "java/lang/invoke/MethodHandle" ∧ yX5_digest.cls ≠ "java/lang/invoke/VarHandle" ∧ (parseMethodDescriptor yX5_digest.desc).map (fun d => d.parameters.length) = some 0 := by decide +kernel
/-! throwing contracts of the class -/
def x_E (o : Nat) (U : State) : Prop := x_N U ∧ vx_Zq Bundle.tN "UNASSIGNED_STACK" Bundle.steD (fun q => o ≤ q) U U.heap ∧ vx_Zq Bundle.tN "SUPPRESSED_SENTINEL" Bundle.listD (fun q => o ≤ q) U U.heap
def x_Pc (G : va_G) (cI cZ cT : ClassId) (o sz : Nat) (S : zS) (av : List Value) : Array Value → State → Prop := va_Pc av (fun U => U.heap.size = sz ∧ z_In G cI cZ cT o S U ∧ x_E o U)
abbrev xQ (G : va_G) (cI cZ cT : ClassId) (o sz : Nat) : Array Value → State → Outcome → State → Prop := va_Qi (fun (_ : Int32) (_ : zS) => False) (z_B G cI cZ cT o) (z_A o sz)
abbrev xXC (G : va_G) (cI cZ cT : ClassId) (o sz : Nat) (S : zS) (E : String) : String → State → State → Prop := vx_X (fun u : zS => u = S) (fun E' u t => E' = E ∧ z_B G cI cZ cT o u t) (z_A o sz)
def zX (l : Launch) (G : va_G) (cI cZ cT : ClassId) (o : Nat) (y : MethodName) (ws : List Cond) (rm : Room) (av : List Value) (S : zS) (E : String) : Prop :=
  ∀ sz : Nat, vx_Met l y ws rm (x_Pc G cI cZ cT o sz S av) (xQ G cI cZ cT o sz) (xXC G cI cZ cT o sz S E) 1 6 (z_A o sz)
theorem x_blind (G : va_G) (cI cZ cT : ClassId) (o sz : Nat) (S : zS) (av : List Value) : FrameBlind (x_Pc G cI cZ cT o sz S av) := fun a U g mk q => by
  obtain ⟨q0, q1, ⟨qP, qK, qN, qZ, qs⟩, qE⟩ := q
  exact ⟨q0, q1, ⟨qP, va_K.moved (u := U) (U := U.calling g mk a) (Vm.Alike.refl U.vm) qK, z_N.same (u := U) (U := U.calling g mk a) rfl qN, qZ.alike (U := U.calling g mk a) (Vm.Alike.refl U.vm), qs⟩, x_N.same (u := U) (U := U.calling g mk a) rfl qE.1, vx_Zq.moved (U := U.calling g mk a) (Vm.Alike.refl U.vm) qE.2.1, vx_Zq.moved (U := U.calling g mk a) (Vm.Alike.refl U.vm) qE.2.2⟩
theorem z_ofX {y : MethodName} {ws ws' : List Cond} {rm : Room} {maxL : Nat} {av : List Value} {S : zS} {E : String} (hy : plainName y.cls = true) (hw : ws = Cond.code y cc maxL (some .int) :: ws') (hn : (lg_sl av).length ≤ maxL)
    (body : ∀ (p : Program) (e : Env) (s : State) (m : MethodId) (args : Array Value) (below : List Frame) (meth : Method) (c : Code), z_X p s m args meth c cc maxL y.cls ws (some .int) G cI cZ cT o → x_E o s → (∀ x ∈ c.exceptionTable.toList, False) → z_V p l e (headSpec ws rm).room s m args below meth c (vx_MQ below (xQ G cI cZ cT o s.heap.size) (xXC G cI cZ cT o s.heap.size S E) args s 1 6 (z_A o s.heap.size)) G cI cZ cT o maxL S 0 (lv_args 0 av) []) : zX l G cI cZ cT o y ws rm av S E := by
  intro sz
  refine vx_ofW (cc := cc) (maxL := maxL) (ret := (some .int)) hy hw ?_
  intro p e s m args below meth c s₁ B hml ht hv
  obtain ⟨rfl, hsz, ⟨hP, hK, hN, hZ, hs⟩, hE⟩ := hv
  subst hsz
  have hts := atoms_spec (ws := ws) B.pre
  have hown : s.vm.findClass y.cls = some m.cls := findClass_of_methodNamed B.named
  rw [lg_entry_eq]
  exact body p e s m _ below meth c ⟨⟨B.exec, B.bytes, hml, hown, hts⟩, hK, hN, hZ, hs, B.returns, B.notSynchronized⟩ hE ht s.heap [] _ hP va_S.rf (lv_entry av hn)
theorem x_throw {S : zS} (hl : l.stackTraces = false) (X : z_X p s m args meth c cc nL RX5 Ts rt G cI cZ cT o) (hE : x_E o s) (ht : ∀ x ∈ c.exceptionTable.toList, False) {cls text : String} {ik is ic : Nat} (hC : cls ∈ x_cast) (hfit : Bundle.fit cls = true) (hstr : (is, text) ∈ x_strs)
    (hgm : ∀ w ∈ Cond.classLink RX5 ik cls :: Cond.initialized cls :: (vx_atS RX5 ic cls ["java/lang/RuntimeException", "java/lang/Exception"]).filter goodWord, w ∈ Ts) (hbad : ∀ w ∈ (vx_atS RX5 ic cls ["java/lang/RuntimeException", "java/lang/Exception"]).filter (fun w => !goodWord w), w ∈ Cond.castable cls cls :: x_sync :: x_decl.map Cond.declares)
    (hgood : ∀ w ∈ Cond.classLink RX5 ik cls :: Cond.initialized cls :: vx_atS RX5 ic cls ["java/lang/RuntimeException", "java/lang/Exception"], vx_ot w = true)
    (d0 : decode cc pc = .ok (.new ik, 3)) (d3 : decode cc (pc + 3) = .ok (.dup, 1)) (d4 : decode cc (pc + 4) = .ok (.ldc is, 2)) (d6 : decode cc (pc + 6) = .ok (.invokespecial ic, 3)) (d9 : decode cc (pc + 9) = .ok (.athrow, 1))
    (hfr : 6 ≤ R.frames) (hlo : 82 ≤ R.locals) (hce : 1 ≤ R.cells) (hsl : 6 ≤ R.slots) : z_V p l e R s m args below meth c (vx_MQ below (xQ G cI cZ cT o s.heap.size) (xXC G cI cZ cT o s.heap.size S cls) args s 1 6 (z_A o s.heap.size)) G cI cZ cT o nL S pc lo [] := fun H locs ls hP hS h => by
  obtain ⟨sa, hsa⟩ := hE.1.2.2.2 (is, text) hstr
  have hts := X.1.2.2.2.2
  have hAo : ∀ q, z_A o s.heap.size q → o ≤ q := fun q g => g.elim (fun g => g.1) (fun g => Nat.le_trans (Nat.le_trans (Nat.le_add_right o 97) X.2.2.2.2.1) g)
  have hat : ∀ w ∈ vx_atS RX5 ic cls ["java/lang/RuntimeException", "java/lang/Exception"], w.before args s = true := vx_hat (fun w hw => hts w (hgm w (List.mem_cons_of_mem _ (List.mem_cons_of_mem _ hw)))) hbad (fun w hw => by
    rcases List.mem_cons.mp hw with rfl | hw
    · exact va_Nw.use rfl (hE.1.2.1.1 _ hC)
    rcases List.mem_cons.mp hw with rfl | hw
    · exact va_Nw.use rfl hE.1.2.2.1.1
    obtain ⟨y, hy, rfl⟩ := List.mem_map.mp hw
    exact va_Nw.use rfl (hE.1.2.1.2 y hy))
  exact vx_throwS X.1.1 X.1.2.1 hl (own := RX5) (cls := cls) (text := text) (names := ["java/lang/RuntimeException", "java/lang/Exception"]) (ik := ik) (is := is) (ic := ic) (sa := sa) (A := z_A o s.heap.size) X.1.2.2.2.1 hfit (by decide +kernel) (hts _ (hgm _ List.mem_cons_self)) (hts _ (hgm _ (List.mem_cons_of_mem _ List.mem_cons_self))) hsa hat hgood (hE.2.1.narrow hAo) (hE.2.2.narrow hAo) hS (h.1.trans X.1.2.2.1.symm) d0 d3 d4 d6 d9 (fun x hx => (ht x hx).elim) (by show 2 + 3 < R.frames; omega) (by show 0 + (13 * (2 + 1) + 43) ≤ R.locals; omega) (by omega) (by omega) X.2.2.2.2.2.2 (fun t hvm hsz hq => ⟨S, rfl, ⟨rfl, hP.kept (fun k x hx => hq x.1 ((hP k x hx).lt))⟩, Nat.le_trans hS.1 hsz, fun q h1 h2 => (hq q (Nat.lt_of_lt_of_le h1 hS.1)).trans (hS.2.1 q h1 h2)⟩) hS.2.2 (Nat.le_refl _) (Nat.le_refl _)
theorem xb_ISE : ∀ w ∈ (vx_atS RX5 48 "java/lang/IllegalStateException" ["java/lang/RuntimeException", "java/lang/Exception"]).filter (fun w => !goodWord w), w ∈ Cond.castable "java/lang/IllegalStateException" "java/lang/IllegalStateException" :: x_sync :: x_decl.map Cond.declares := by decide +kernel
theorem xg_ISE : ∀ w ∈ Cond.classLink RX5 44 "java/lang/IllegalStateException" :: Cond.initialized "java/lang/IllegalStateException" :: vx_atS RX5 48 "java/lang/IllegalStateException" ["java/lang/RuntimeException", "java/lang/Exception"], vx_ot w = true := by decide +kernel
theorem xf_ISE : Bundle.fit "java/lang/IllegalStateException" = true := by decide +kernel
theorem xb_IAE : ∀ w ∈ (vx_atS RX5 59 "java/lang/IllegalArgumentException" ["java/lang/RuntimeException", "java/lang/Exception"]).filter (fun w => !goodWord w), w ∈ Cond.castable "java/lang/IllegalArgumentException" "java/lang/IllegalArgumentException" :: x_sync :: x_decl.map Cond.declares := by decide +kernel
theorem xg_IAE : ∀ w ∈ Cond.classLink RX5 55 "java/lang/IllegalArgumentException" :: Cond.initialized "java/lang/IllegalArgumentException" :: vx_atS RX5 59 "java/lang/IllegalArgumentException" ["java/lang/RuntimeException", "java/lang/Exception"], vx_ot w = true := by decide +kernel
theorem xf_IAE : Bundle.fit "java/lang/IllegalArgumentException" = true := by decide +kernel
theorem xb_IOB : ∀ w ∈ (vx_atS RX5 88 "java/lang/IndexOutOfBoundsException" ["java/lang/RuntimeException", "java/lang/Exception"]).filter (fun w => !goodWord w), w ∈ Cond.castable "java/lang/IndexOutOfBoundsException" "java/lang/IndexOutOfBoundsException" :: x_sync :: x_decl.map Cond.declares := by decide +kernel
theorem xg_IOB : ∀ w ∈ Cond.classLink RX5 84 "java/lang/IndexOutOfBoundsException" :: Cond.initialized "java/lang/IndexOutOfBoundsException" :: vx_atS RX5 88 "java/lang/IndexOutOfBoundsException" ["java/lang/RuntimeException", "java/lang/Exception"], vx_ot w = true := by decide +kernel
theorem xf_IOB : Bundle.fit "java/lang/IndexOutOfBoundsException" = true := by decide +kernel
/-! the law's wrappers: a method with handlers -/
theorem x_ofWH {l : Launch} {y : MethodName} {ws ws' : List Cond} {rm : Room} {Pc : Array Value → State → Prop} {Qc : Array Value → State → Outcome → State → Prop} {mc ms : Nat} {free : Addr → Prop} {cc : ByteArray} {maxL : Nat} {ret : Option FieldType} {hh : List (Nat × Nat × Nat × Nat)} (hy : plainName y.cls = true) (hw : ws = Cond.codeWith y cc maxL ret hh :: ws')
    (body : ∀ p e s m args below meth c s₁, BodyLoose p l y (headSpec ws rm) cc maxL ret e s m args below meth c s₁ → c.maxLocals = maxL → Pc args s → W p l e (headSpec ws rm).room s m args below meth c s.heap [] 0 0 (MQ below Qc args s mc ms free) (entryFrame m args maxL)) : Met l y ws rm Pc Qc mc ms free := by
  refine MetFree.of_bodyS (code := cc) (maxLocals := maxL) (ret := ret) hy ?_ ?_
  · intro args s m h hn
    obtain ⟨m9, meth, c, hn9, h1, h2, h3, h4, -, h5, h6, -⟩ := Cond.codeWith_spec (atoms_spec (ws := ws) h _ (by rw [hw]; exact List.mem_cons_self))
    cases hn.symm.trans hn9
    exact ⟨meth, c, h1, h2, h3, h4, h5, h6⟩
  · intro p e s m args below meth c s₁ B hml hP _
    have hh0 : s₁.heap = s.heap := by rw [B.state]; rfl
    obtain ⟨t, a1, o, b1, b2, b3⟩ := body p e s m args below meth c s₁ B hml hP s₁ hh0 (Stand.of_body B)
    exact ⟨t, o, a1, b1, b2, ⟨b3.1, b3.2⟩⟩
theorem j_ofW {β : Type} {y : MethodName} {w9 w9' : List Cond} {rm : Room} {maxL mk ms : Nat} {av : List Value} {post : Int32 → β → Prop} {wc : va_W} {wf : β → va_W} {hh : List (Nat × Nat × Nat × Nat)} (hy : plainName y.cls = true) (hw : w9 = Cond.codeWith y cc maxL (some .int) hh :: w9') (hn : (lg_sl av).length ≤ maxL)
    (body : ∀ (p : Program) (e : Env) (s : State) (m : MethodId) (args : Array Value) (below : List Frame) (meth : Method) (c : Code), j_X p s m args meth c cc maxL y.cls w9 (some .int) G tys → c.exceptionTable.toList = tableOf hh → j_Z K (va_A wc s.heap.size) s s.heap → j_V p l e (headSpec w9 rm).room s m args below meth c (MQ below (va_Qi post (j_B G (va_A wc s.heap.size) wf) (va_A wc s.heap.size)) args s mk ms (va_A wc s.heap.size)) G maxL (va_A wc s.heap.size) 0 0 wc 0 (lv_args 0 av) []) : jI l G K tys y w9 rm wc av mk ms post wf := by
  intro sz hD
  refine x_ofWH (cc := cc) (maxL := maxL) (ret := some .int) (hh := hh) hy hw ?_
  intro p e s m args below meth c s₁ B hml hv
  obtain ⟨rfl, hsz, hP, hK, hZ⟩ := hv
  subst hsz
  have hts := atoms_spec (ws := w9) B.pre
  have hown : s.vm.findClass y.cls = some m.cls := findClass_of_methodNamed B.named
  have htab : c.exceptionTable.toList = tableOf hh := vx_table (x := y) B (hts _ (by rw [hw]; exact List.mem_cons_self))
  rw [lg_entry_eq]
  exact body p e s m _ below meth c ⟨⟨B.exec, B.bytes, hml, hown, hts⟩, hK, B.returns, B.notSynchronized⟩ htab hZ s.heap [] _ hP hD va_S.rf (lv_entry av hn)
theorem x_begin {more : va_W} {S : zS} {H : Heap} {locs : List Loc} (hK : va_K G vwCl (j_ty cI cZ cT cB) s) (hA : ∀ q, s.heap.size ≤ q → A q) (hZ : j_Z K A s s.heap) (hP : va_P G vwCl (more ++ z_w cI cZ cT o S) H) (hD : va_D A (more ++ z_w cI cZ cT o S)) (hS : va_S A s.heap H locs) (av : List Value) : (∀ q, z_A o H.size q → A q) ∧ va_P G vwCl (z_w cI cZ cT o S) H ∧ ∀ U : State, U.heap = H → s.WarmedH U.vm → x_Pc G cI cZ cT o H.size S av av.toArray U := by
  obtain ⟨hFA, hPz, start⟩ := z_begin hK hA hZ hP hD hS av
  obtain ⟨b0, hb, hz, hu, hn⟩ := hZ.2.2.2.2
  have hin := z_in hD
  have hbo : b0 ≤ o := hb o (hin o ⟨Nat.le_refl o, by omega⟩)
  have hq : ∀ a : Nat, a < s.heap.size → ¬ b0 ≤ a → H[a]? = s.heap[a]? := fun a g1 g2 => hS.2.1 a g1 (fun q => g2 (hb a q))
  refine ⟨hFA, hPz, fun U hU hW9 => ?_⟩
  obtain ⟨g1, g2, g3⟩ := start U hU hW9
  refine ⟨g1, g2, g3, x_N.warm hW9 hZ.2.2.2.1, ?_, ?_⟩
  · rw [hU]; exact ((hu.kept hq).narrow (fun q g => Nat.le_trans hbo g)).moved hW9.alike
  · rw [hU]; exact ((hn.kept hq).narrow (fun q g => Nat.le_trans hbo g)).moved hW9.alike
theorem x_callX (X : j_X p s m args meth c cc nL own Ts rt G (j_ty cI cZ cT cB)) (hA : ∀ q, s.heap.size ≤ q → A q) (hZ : j_Z K A s s.heap) {y : MethodName} {bytes : ByteArray} {maxL idx : Nat} {ret : Option FieldType} {w9 w9' : List Cond} {rm : Room} (more : va_W) {S : zS} {E : String} (As : List Value) (hM : zX l G cI cZ cT o y w9 rm (.ref (o + 0) :: As) S E) (n : Nat) (hn : As.length = n) (hT : GoodIn Ts (wsV own idx RX5 y w9)) (hw : w9 = Cond.code y bytes maxL ret :: w9') (hrm : rm.cells = 1 ∧ rm.slots = 6) (hy : y.cls = RX5 ∧ y.cls ≠ "java/lang/invoke/MethodHandle" ∧ y.cls ≠ "java/lang/invoke/VarHandle" ∧ (parseMethodDescriptor y.desc).map (fun d => d.parameters.length) = some n) (hR : rm.frames + 1 ≤ R.frames ∧ 8 + (maxL + 11) + rm.locals ≤ R.locals) {stk : List Value} (hst : stk = As.reverse ++ [.ref o]) (hW : (rest.map fun v => v.category).sum ≤ 8) (hf : k9 + 1 ≤ R.cells ∧ q9 + 6 ≤ R.slots) (hd : decode cc pc = .ok (.invokevirtual idx, 3))
    (pre : List ExceptionTableEntry) (x : ExceptionTableEntry) (suf : List ExceptionTableEntry) (hsplit : c.exceptionTable.toList = pre ++ x :: suf) (hpass : ∀ z ∈ pre, z.catchType ≠ 0 ∧ ∃ nm : String, Cond.classLink own z.catchType nm ∈ Ts ∧ va_Nc E nm s) (hx : covers x pc = true) (h0 : x.catchType ≠ 0) (hlink : Cond.classLink own x.catchType E ∈ Ts) (hC : E ∈ x_cast)
    (kk : ∀ qe : Nat, j_V p l e R s m args below meth c Q G nL A (k9 + 1) (q9 + 6) (more ++ z_w cI cZ cT o S) x.handlerPc lo [.ref qe]) : j_V p l e R s m args below meth c Q G nL A k9 q9 (more ++ z_w cI cZ cT o S) pc lo (stk ++ rest) := fun H locs ls hP hD hS h => by
  subst hst
  obtain ⟨hFA, hPz, start⟩ := x_begin X.2.1 hA hZ hP hD hS (.ref (o + 0) :: As)
  refine vx_calli (vx_runV (As := As) (rest := rest) X.1 (hM H.size) (cwV n X.1.2.2.2.2 hT hw hrm.1 hrm.2 hy hR) ⟨x_blind G cI cZ cT o H.size S _, va_recv X.2.1 hPz (ci := 5) (q0 := 0) rfl (by rw [z_w_get cI cZ cT o S (j := 0) (by decide), zc_X]), start⟩ rfl hn h.1 (by simp [F0]) (lv_room hW) hd hf) hS (fun q _ g => hFA q g) hFA (fun q _ g => hFA q g) (fun E' ce qe u t H1 locs1 ht hvm hp9 hB hz1 hk1 hS1 hce hcv hcf => ?_) (fun r u t H1 locs1 ht hvm hp9 hB hz1 hk1 hS1 => hp9.elim)
  obtain ⟨e1, hB⟩ := hB
  subst e1
  subst hp9
  have hB1 : va_P G vwCl (z_w cI cZ cT o u) H1 := by
    have h9 : va_P G vwCl (z_w cI cZ cT o u) t.heap := hB
    rw [ht] at h9; exact h9
  obtain ⟨j1, j2⟩ := z_join hP hD hFA hk1 hB1
  exact vx_catch X.1.2.2.2.1 pre x suf hsplit (fun z hz => Or.inr ⟨(hpass z hz).1, (hpass z hz).2.elim (fun nm q => ⟨nm, X.1.2.2.2.2 _ q.1, q.2⟩)⟩) hx h0 (X.1.2.2.2.2 _ hlink) (va_Nw.use rfl (hZ.2.2.2.1.2.1.1 _ hC)) hce hcv hcf (kk qe H1 locs1 ls j1 j2 hS1 h)
theorem j_callWI (X : j_X p s m args meth c cc nL own Ts rt G tys) (hA : ∀ q, s.heap.size ≤ q → A q) (hZ : j_Z K A s s.heap) {β : Type} {y : MethodName} {bytes : ByteArray} {maxL idx mk ms : Nat} {ret : Option FieldType} {hh : List (Nat × Nat × Nat × Nat)} {w9 w9' : List Cond} {rm : Room} {post : Int32 → β → Prop} {wc wr : va_W} {wf : β → va_W} (isC isR : List Nat) (hC : isC.map (fun i => ws[i]?) = wc.map some) (hR9 : isR.map (fun i => ws[i]?) = wr.map some) (hnC : va_nd isC = true) (hnR : va_nd isR = true) (hdis : ∀ i ∈ isR, i ∉ isC) (As : List Value) (hM : jI l G K tys y w9 rm wc As mk ms post wf) (n : Nat) (hn : As.length = n) (hT : GoodIn Ts (va_wsS own idx y w9)) (hw : w9 = Cond.codeWith y bytes maxL ret hh :: w9') (hrm : rm.cells = mk ∧ rm.slots = ms) (hy : y.cls ≠ "java/lang/invoke/MethodHandle" ∧ y.cls ≠ "java/lang/invoke/VarHandle" ∧ (parseMethodDescriptor y.desc).map (fun d => d.parameters.length) = some n) (hR : rm.frames + 1 ≤ R.frames ∧ 8 + (maxL + 11) + rm.locals ≤ R.locals) {stk : List Value} (hst : stk = As.reverse) (hW : (rest.map fun v => v.category).sum ≤ 8) (hf : k9 + mk ≤ R.cells ∧ q9 + ms ≤ R.slots) (hd : decode cc pc = .ok (.invokestatic idx, 3)) (kk : ∀ (r : Int32) (u : β), post r u → j_V p l e R s m args below meth c Q G nL A (k9 + mk) (q9 + ms) (wr ++ wf u) (pc + 3) lo (.int r :: rest)) : j_V p l e R s m args below meth c Q G nL A k9 q9 ws pc lo (stk ++ rest) := fun H locs ls hP hD hS h => by
  subst hst
  have hFA : ∀ q, va_A wc H.size q → A q := va_free hD hS hA isC hC
  have hDc : va_D (va_A wc H.size) wc := (hD.sub isC hnC hC).self
  have hPc : va_P G vwCl wc H := hP.sub isC (by
    have e : isC.filterMap (fun i => ws[i]?) = (isC.map (fun i => ws[i]?)).filterMap id := by rw [List.filterMap_map]; rfl
    rw [e, hC, List.filterMap_map]
    exact List.filterMap_some)
  have start : ∀ U : State, U.heap = H → s.WarmedH U.vm → va_Pc As (j_In G K tys wc H.size) (As : List Value).toArray U := fun U hU hW9 => ⟨rfl, by rw [hU], by rw [hU]; exact hPc, va_K.moved hW9.alike X.2.1, by rw [hU]; exact hZ.at hS hFA hW9⟩
  skip
  refine va_calli (vx_runSW (hh := hh) (As := As) (rest := rest) X.1 (hM H.size hDc) (vx_cwSW n X.1.2.2.2.2 hT hw hrm.1 hrm.2 hy hR) ⟨j_blind G K tys wc H.size _, start⟩ rfl hn h.1 (by simp [F0]) (lv_room hW) hd hf) hS (fun q _ g => hFA q g) hFA (fun r u t H1 locs1 ht hvm hp9 hB hz1 hk1 hS1 => ?_)
  obtain ⟨hB1, hB2⟩ := hB
  rw [ht] at hB1
  obtain ⟨j1, j2⟩ := va_join hP hD isC isR hC hR9 hnR hdis hk1 hFA hB1 hB2
  exact kk r u hp9 H1 locs1 ls j1 j2 hS1 h
theorem p_callWI (X : j_X p s m args meth c cc nL own Ts rt G tys) (hA : ∀ q, s.heap.size ≤ q → A q) (hZ : j_Z K A s s.heap) {β : Type} {y : MethodName} {bytes : ByteArray} {maxL idx mk ms : Nat} {ret : Option FieldType} {hh : List (Nat × Nat × Nat × Nat)} {w9 w9' : List Cond} {rm : Room} {post : Int32 → β → Prop} {wf : β → va_W} (wc wr : va_W) (wo : β → va_W) (hp : ws.Perm (wc ++ wr)) (ho : ∀ u : β, (wr ++ wf u).Perm (wo u)) (As : List Value) (hM : jI l G K tys y w9 rm wc As mk ms post wf) (n : Nat) (hn : As.length = n) (hT : GoodIn Ts (va_wsS own idx y w9)) (hw : w9 = Cond.codeWith y bytes maxL ret hh :: w9') (hrm : rm.cells = mk ∧ rm.slots = ms) (hy : y.cls ≠ "java/lang/invoke/MethodHandle" ∧ y.cls ≠ "java/lang/invoke/VarHandle" ∧ (parseMethodDescriptor y.desc).map (fun d => d.parameters.length) = some n) (hR : rm.frames + 1 ≤ R.frames ∧ 8 + (maxL + 11) + rm.locals ≤ R.locals) {stk : List Value} (hst : stk = As.reverse) (hW : (rest.map fun v => v.category).sum ≤ 8) (hf : k9 + mk ≤ R.cells ∧ q9 + ms ≤ R.slots) (hd : decode cc pc = .ok (.invokestatic idx, 3)) (kk : ∀ (r : Int32) (u : β), post r u → j_V p l e R s m args below meth c Q G nL A (k9 + mk) (q9 + ms) (wo u) (pc + 3) lo (.int r :: rest)) : j_V p l e R s m args below meth c Q G nL A k9 q9 ws pc lo (stk ++ rest) :=
  j_perm hp (j_callWI X hA hZ (List.range wc.length) ((List.range wr.length).map (fun i => wc.length + i)) (is_C wc wr) (is_R wc wr) (nd_of _ List.nodup_range) (nd_of _ (nd_add _ List.nodup_range)) (is_dis _ _) As hM n hn hT hw hrm hy hR hst hW hf hd (fun r u hp9 => j_perm (ho u) (kk r u hp9)))
end ZK
