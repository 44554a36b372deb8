section ZY
variable {p : Program} {l : Launch} {e : Env} {R : Room} {s : State} {m : MethodId} {args : Array Value} {below : List Frame} {meth : Method} {c : Code} {Q : State → Prop}
variable {G : va_G} {cI cZ cT : ClassId} {nL h0 k q : Nat} {e0 : va_E} {ct : Nat → va_E} {cc : ByteArray} {own : String} {Ts : List Cond} {pc : Nat} {lo lo' : List (Nat × Value)} {st rest : List Value}
def y_A (h0 sz : Nat) : Nat → Prop := fun q => q = h0 ∨ sz ≤ q
def y_w (h0 sz : Nat) (e0 : va_E) (k : Nat) (ct : Nat → va_E) : va_W := (h0, e0) :: (List.range k).map (fun i => (sz + i, ct i))
theorem y_w_0 (h0 sz : Nat) (e0 : va_E) (k : Nat) (ct : Nat → va_E) : (y_w h0 sz e0 k ct)[0]? = some (h0, e0) := rfl
theorem y_w_s (h0 sz : Nat) (e0 : va_E) {k i : Nat} (ct : Nat → va_E) (hi : i < k) : (y_w h0 sz e0 k ct)[i + 1]? = some (sz + i, ct i) := by
  simp [y_w, hi]
theorem y_w_lt {h0 sz : Nat} {e0 : va_E} {k : Nat} {ct : Nat → va_E} {j : Nat} {x : Nat × va_E} (h : (y_w h0 sz e0 k ct)[j]? = some x) : (j = 0 ∧ x = (h0, e0)) ∨ ∃ i, i < k ∧ j = i + 1 ∧ x = (sz + i, ct i) := by
  cases j with
  | zero => exact Or.inl ⟨rfl, (Option.some.inj ((y_w_0 h0 sz e0 k ct).symm.trans h)).symm⟩
  | succ i =>
    have hi : i < k := by
      have := (List.getElem?_eq_some_iff.mp h).1
      simpa [y_w] using this
    exact Or.inr ⟨i, hi, rfl, (Option.some.inj ((y_w_s h0 sz e0 ct hi).symm.trans h)).symm⟩
theorem y_push (h0 sz : Nat) (e0 : va_E) (k : Nat) (ct : Nat → va_E) (x : va_E) : y_w h0 sz e0 k ct ++ [(sz + k, x)] = y_w h0 sz e0 (k + 1) (va_up ct k x) := by
  unfold y_w
  rw [List.range_succ, List.map_append, List.cons_append]
  congr 1
  congr 1
  · apply List.map_congr_left
    intro i hi
    have : i < k := List.mem_range.mp hi
    simp [va_up, Nat.ne_of_lt this]
  · simp [va_up]
theorem y_set0 (h0 sz : Nat) (e0 x : va_E) (k : Nat) (ct : Nat → va_E) : (y_w h0 sz e0 k ct).set 0 (h0, x) = y_w h0 sz x k ct := rfl
theorem y_setS (h0 sz : Nat) (e0 x : va_E) {k i : Nat} (ct : Nat → va_E) : (y_w h0 sz e0 k ct).set (i + 1) (sz + i, x) = y_w h0 sz e0 k (va_up ct i x) := by
  unfold y_w
  rw [List.set_cons_succ]
  congr 1
  apply List.ext_getElem?
  intro j
  rw [List.getElem?_set]
  by_cases hj : i = j
  · subst hj
    by_cases hk : i < k
    · simp [hk, va_up]
    · simp [hk]
  · rw [if_neg hj]
    by_cases hk : j < k
    · simp [hk, va_up, Ne.symm hj]
    · simp [hk]
def y_N (U : State) : Prop := va_Nw (.methodLinkNest RX5 9 yX2_init RX5) U ∧ va_Nw (.methodLinkNest RX1 31 yX3_init RX5) U ∧ va_Nw (.methodLinkNest RX5 36 yX4_init RX5) U ∧ va_AO "SapperWar$Team" U
theorem y_N.same {u U : State} (h : u.vm = U.vm) (hn : y_N u) : y_N U := ⟨va_Nw.same rfl h hn.1, va_Nw.same rfl h hn.2.1, va_Nw.same rfl h hn.2.2.1, va_AO.moved (by rw [h]; exact Vm.Alike.refl _) hn.2.2.2⟩
theorem y_N.warm {s U : State} (hW : s.WarmedH U.vm) (hn : y_N s) : y_N U := ⟨va_Nw.warmM hW hn.1, va_Nw.warmM hW hn.2.1, va_Nw.warmM hW hn.2.2.1, va_AO.moved hW.alike hn.2.2.2⟩
def y_Pc (G : va_G) (cI cZ cT : ClassId) (h0 sz : Nat) (e0 : va_E) : Array Value → State → Prop := va_Pc [.ref h0] (fun U => U.heap.size = sz ∧ va_P G vwCl [(h0, e0)] U.heap ∧ va_K G vwCl (z_ty cI cZ cT) U ∧ y_N U)
/-- a constructor: of the object h0, with the heap's next place sz; e1, ct1: what the object and the new cells hold -/
def zN (l : Launch) (G : va_G) (cI cZ cT : ClassId) (y : MethodName) (ws : List Cond) (rm : Room) (e0 : va_E) (e1 : Nat → Nat → va_E) (mk ms : Nat) (ct1 : Nat → Nat → Nat → va_E) : Prop :=
  ∀ h0 sz : Nat, Met l y ws rm (y_Pc G cI cZ cT h0 sz e0) (va_Qv (fun _ : Unit => True) (fun _ t => va_P G vwCl (y_w h0 sz (e1 h0 sz) mk (ct1 h0 sz)) t.heap) (y_A h0 sz)) mk ms (y_A h0 sz)
def y_X (p : Program) (s : State) (m : MethodId) (args : Array Value) (meth : Method) (c : Code) (cc : ByteArray) (nL : Nat) (own : String) (Ts : List Cond) (G : va_G) (cI cZ cT : ClassId) : Prop :=
  CallFix p m c cc nL s args Ts own ∧ va_K G vwCl (z_ty cI cZ cT) s ∧ y_N s ∧ meth.sig.returnType = none ∧ meth.locks = false
def y_V (p : Program) (l : Launch) (e : Env) (R : Room) (s : State) (m : MethodId) (args : Array Value) (below : List Frame) (meth : Method) (c : Code) (Q : State → Prop) (G : va_G) (cI cZ cT : ClassId) (nL h0 : Nat) (e0 : va_E) (k q : Nat) (ct : Nat → va_E) (pc : Nat) (lo : List (Nat × Value)) (st : List Value) : Prop :=
  ∀ (H : Heap) (locs : List Loc) (ls : Array Slot), va_P G vwCl (y_w h0 s.heap.size e0 k ct) H → va_D (y_A h0 s.heap.size) (y_w h0 s.heap.size e0 k ct) → va_S (y_A h0 s.heap.size) s.heap H locs → lv_has ls nL lo → W p l e R s m args below meth c H locs k q Q (F0 m pc ls st)
theorem y_hA (h0 sz : Nat) : ∀ x, sz ≤ x → y_A h0 sz x := fun _ h => Or.inr h
/-- the heap holds no more new cells than were counted -/
theorem y_sz {H : Heap} {locs : List Loc} {cells slots : Nat} {g : JFrame} (kk : H.size ≤ s.heap.size + cells → W p l e R s m args below meth c H locs cells slots Q g) : W p l e R s m args below meth c H locs cells slots Q g := fun T hT X => kk (by rw [← hT]; exact X.same.2.2.1) T hT X
theorem y_pig {H : Heap} {x sz : Nat} {y : va_E} (hP : va_P G vwCl (y_w h0 sz e0 k ct ++ [(x, y)]) H) (hD : va_D (y_A h0 sz) (y_w h0 sz e0 k ct ++ [(x, y)])) (hz : H.size ≤ sz + (k + 1)) : x = sz + k := by
  have hl : (y_w h0 sz e0 k ct).length = k + 1 := by simp [y_w]
  have hx : (y_w h0 sz e0 k ct ++ [(x, y)])[k + 1]? = some (x, y) := by rw [List.getElem?_append_right (by omega), hl]; simp
  have h1 : x < H.size := (hP _ _ hx).lt
  have h2 : y_A h0 sz x := hD.2 _ _ hx
  have h3 : ∀ i, i < k → x ≠ sz + i := fun i hi e => by
    have := hD.1 (k + 1) (i + 1) _ _ hx (by rw [List.getElem?_append_left (by omega)]; exact y_w_s h0 sz e0 ct hi) e
    omega
  have h4 : x ≠ h0 := fun e => by
    have := hD.1 (k + 1) 0 _ _ hx (by rw [List.getElem?_append_left (by omega)]; exact y_w_0 h0 sz e0 k ct) e
    omega
  rcases h2 with h2 | h2
  · exact absurd h2 h4
  · rcases Nat.lt_or_ge x (sz + k) with h5 | h5
    · exact absurd (show x = sz + (x - sz) by omega) (h3 (x - sz) (by omega))
    · omega
theorem y_full {H : Heap} {sz : Nat} (hP : va_P G vwCl (y_w h0 sz e0 k ct) H) (hs : sz ≤ H.size) (hz : H.size ≤ sz + k) : H.size = sz + k := by
  cases k with
  | zero => omega
  | succ k =>
    have := (hP _ _ (y_w_s h0 sz e0 ct (Nat.lt_succ_self k))).lt
    have h : sz + k < H.size := this
    omega
theorem y_wD {h0 sz : Nat} (hh : h0 < sz) (e0 : va_E) (k : Nat) (ct : Nat → va_E) : va_D (y_A h0 sz) (y_w h0 sz e0 k ct) := by
  refine ⟨fun i j x y hx hy h => ?_, fun i x hx => ?_⟩
  · rcases y_w_lt hx with ⟨rfl, rfl⟩ | ⟨i', hi, rfl, rfl⟩
    · rcases y_w_lt hy with ⟨rfl, rfl⟩ | ⟨j', hj, rfl, rfl⟩
      · rfl
      · have h : h0 = sz + j' := h
        omega
    · rcases y_w_lt hy with ⟨rfl, rfl⟩ | ⟨j', hj, rfl, rfl⟩
      · have h : sz + i' = h0 := h
        omega
      · have h : sz + i' = sz + j' := h
        omega
  · rcases y_w_lt hx with ⟨rfl, rfl⟩ | ⟨i', hi, rfl, rfl⟩
    · exact Or.inl rfl
    · exact Or.inr (Nat.le_add_right _ _)

theorem y_of {y : MethodName} {ws ws' : List Cond} {rm : Room} {maxL mk ms : Nat} {e1 : Nat → Nat → va_E} {ct1 : Nat → Nat → Nat → va_E} (hy : plainName y.cls = true) (hw : ws = Cond.code y cc maxL none :: ws') (hn : y.name = "<init>") (h1 : 1 ≤ maxL)
    (body : ∀ (p : Program) (e : Env) (s : State) (m : MethodId) (args : Array Value) (below : List Frame) (meth : Method) (c : Code) (h0 : Nat), y_X p s m args meth c cc maxL y.cls ws G cI cZ cT → meth.name = "<init>" → h0 < s.heap.size → y_V p l e (headSpec ws rm).room s m args below meth c (MQ below (va_Qv (fun _ : Unit => True) (fun _ t => va_P G vwCl (y_w h0 s.heap.size (e1 h0 s.heap.size) mk (ct1 h0 s.heap.size)) t.heap) (y_A h0 s.heap.size)) args s mk ms (y_A h0 s.heap.size)) G cI cZ cT maxL h0 e0 0 0 (fun _ => e0) 0 [(0, .ref h0)] []) : zN l G cI cZ cT y ws rm e0 e1 mk ms ct1 := by
  intro h0 sz
  refine Met.ofW (cc := cc) (maxL := maxL) (ret := none) hy hw ?_
  intro p e s m args below meth c s₁ B hml hv
  obtain ⟨rfl, hsz, hP, hK, hN⟩ := hv
  subst hsz
  have hts := atoms_spec (ws := ws) B.pre
  have hown : s.vm.findClass y.cls = some m.cls := findClass_of_methodNamed B.named
  have hin : meth.name = "<init>" := (name_of_methodNamed B.named B.method).1.trans hn
  have hh : h0 < s.heap.size := (hP 0 _ rfl).lt
  rw [lg_entry_eq]
  exact body p e s m _ below meth c h0 ⟨⟨B.exec, B.bytes, hml, hown, hts⟩, hK, hN, B.returns, B.notSynchronized⟩ hin hh s.heap [] _ hP (y_wD hh e0 0 _) va_S.rf (lv_entry [.ref h0] (by simpa [lg_sl, Value.category] using h1))
theorem y_aload_n (X : y_X p s m args meth c cc nL own Ts G cI cZ cT) {k9 : Fin 4} {i x : Nat} (j : Nat) (hd : decode cc pc = .ok (.aload_n k9, 1)) (hi : (k9 : Nat) = i) (hl : lo[j]? = some (i, .ref x)) (kk : y_V p l e R s m args below meth c Q G cI cZ cT nL h0 e0 k q ct (pc + 1) lo (.ref x :: st)) : y_V p l e R s m args below meth c Q G cI cZ cT nL h0 e0 k q ct pc lo st := fun H locs ls hP hD hS h => lv_aload_n X.1.1 X.1.2.1 hd hi (lv_at h j hl) (kk H locs ls hP hD hS h)
theorem y_iload_n (X : y_X p s m args meth c cc nL own Ts G cI cZ cT) {k9 : Fin 4} {i : Nat} {x : Int32} (j : Nat) (hd : decode cc pc = .ok (.iload_n k9, 1)) (hi : (k9 : Nat) = i) (hl : lo[j]? = some (i, .int x)) (kk : y_V p l e R s m args below meth c Q G cI cZ cT nL h0 e0 k q ct (pc + 1) lo (.int x :: st)) : y_V p l e R s m args below meth c Q G cI cZ cT nL h0 e0 k q ct pc lo st := fun H locs ls hP hD hS h => lv_iload_n X.1.1 X.1.2.1 hd hi (lv_at h j hl) (kk H locs ls hP hD hS h)
theorem y_istore_n (X : y_X p s m args meth c cc nL own Ts G cI cZ cT) {k9 : Fin 4} {i : Nat} {x : Int32} (hd : decode cc pc = .ok (.istore_n k9, 1)) (hi : (k9 : Nat) = i) (hn : i < nL) (hl : (i, Value.int x) :: lo.filter (fun q => !(q.1 == i) && !(q.1 + 1 == i && q.2.category == 2)) = lo') (kk : y_V p l e R s m args below meth c Q G cI cZ cT nL h0 e0 k q ct (pc + 1) lo' st) : y_V p l e R s m args below meth c Q G cI cZ cT nL h0 e0 k q ct pc lo (.int x :: st) := fun H locs ls hP hD hS h => lv_istore_n X.1.1 X.1.2.1 hd hi h hn hl (fun ls h => kk H locs ls hP hD hS h)
theorem y_iinc (X : y_X p s m args meth c cc nL own Ts G cI cZ cT) {i : Nat} {n : Int} {x v : Int32} (j : Nat) (hd : decode cc pc = .ok (.iinc i n, 3)) (hk : lo[j]? = some (i, .int x)) (hv : x + Int32.ofInt n = v) (hn : i < nL) (hl : (i, Value.int v) :: lo.filter (fun q => !(q.1 == i) && !(q.1 + 1 == i && q.2.category == 2)) = lo') (kk : y_V p l e R s m args below meth c Q G cI cZ cT nL h0 e0 k q ct (pc + 3) lo' st) : y_V p l e R s m args below meth c Q G cI cZ cT nL h0 e0 k q ct pc lo st := fun H locs ls hP hD hS h => lv_iinc X.1.1 X.1.2.1 hd h hk hv hn hl (fun ls h => kk H locs ls hP hD hS h)
theorem y_iconst (X : y_X p s m args meth c cc nL own Ts G cI cZ cT) {n : Int} {v : Int32} (hv : Int32.ofInt n = v) (hd : decode cc pc = .ok (.iconst n, 1)) (kk : y_V p l e R s m args below meth c Q G cI cZ cT nL h0 e0 k q ct (pc + 1) lo (.int v :: st)) : y_V p l e R s m args below meth c Q G cI cZ cT nL h0 e0 k q ct pc lo st := fun H locs ls hP hD hS h => (fun k => lv_iconst X.1.1 X.1.2.1 hd hv k) (kk H locs ls hP hD hS h)
theorem y_bipush (X : y_X p s m args meth c cc nL own Ts G cI cZ cT) {n : Int} {v : Int32} (hv : (Int8.ofInt n).toInt32 = v) (hd : decode cc pc = .ok (.bipush n, 2)) (kk : y_V p l e R s m args below meth c Q G cI cZ cT nL h0 e0 k q ct (pc + 2) lo (.int v :: st)) : y_V p l e R s m args below meth c Q G cI cZ cT nL h0 e0 k q ct pc lo st := fun H locs ls hP hD hS h => (fun k => lv_bipush X.1.1 X.1.2.1 hd hv k) (kk H locs ls hP hD hS h)
theorem y_sipush (X : y_X p s m args meth c cc nL own Ts G cI cZ cT) {n : Int} {v : Int32} (hv : (Int16.ofInt n).toInt32 = v) (hd : decode cc pc = .ok (.sipush n, 3)) (kk : y_V p l e R s m args below meth c Q G cI cZ cT nL h0 e0 k q ct (pc + 3) lo (.int v :: st)) : y_V p l e R s m args below meth c Q G cI cZ cT nL h0 e0 k q ct pc lo st := fun H locs ls hP hD hS h => (fun k => lv_sipush X.1.1 X.1.2.1 hd hv k) (kk H locs ls hP hD hS h)
theorem y_dup (X : y_X p s m args meth c cc nL own Ts G cI cZ cT) {va : Value} (hva : va.category = 1) (hd : decode cc pc = .ok (.dup, 1)) (kk : y_V p l e R s m args below meth c Q G cI cZ cT nL h0 e0 k q ct (pc + 1) lo (va :: va :: st)) : y_V p l e R s m args below meth c Q G cI cZ cT nL h0 e0 k q ct pc lo (va :: st) := fun H locs ls hP hD hS h => (fun k => lv_dup X.1.1 X.1.2.1 hd hva k) (kk H locs ls hP hD hS h)
theorem y_goto (X : y_X p s m args meth c cc nL own Ts G cI cZ cT) {off : Int} {tgt : Nat} (hd : decode cc pc = .ok (.goto off, 3)) (ht : (pc : Int) + off = (tgt : Int)) (kk : y_V p l e R s m args below meth c Q G cI cZ cT nL h0 e0 k q ct tgt lo st) : y_V p l e R s m args below meth c Q G cI cZ cT nL h0 e0 k q ct pc lo st := fun H locs ls hP hD hS h => lv_goto X.1.1 X.1.2.1 hd ht (kk H locs ls hP hD hS h)
theorem y_ge_no (X : y_X p s m args meth c cc nL own Ts G cI cZ cT) {x y : Int32} {off : Int} {tgt : Nat} (hn : ¬ y ≤ x) (hd : decode cc pc = .ok (.if_icmp .ge off, 3)) (ht : (pc : Int) + off = (tgt : Int)) (kk : y_V p l e R s m args below meth c Q G cI cZ cT nL h0 e0 k q ct (pc + 3) lo st) : y_V p l e R s m args below meth c Q G cI cZ cT nL h0 e0 k q ct pc lo (.int y :: .int x :: st) := fun H locs ls hP hD hS h => lv_icmp_ge X.1.1 X.1.2.1 hd ht (fun q9 => absurd q9 hn) (fun _ => kk H locs ls hP hD hS h)
theorem y_ge_yes (X : y_X p s m args meth c cc nL own Ts G cI cZ cT) {x y : Int32} {off : Int} {tgt : Nat} (hn : y ≤ x) (hd : decode cc pc = .ok (.if_icmp .ge off, 3)) (ht : (pc : Int) + off = (tgt : Int)) (kk : y_V p l e R s m args below meth c Q G cI cZ cT nL h0 e0 k q ct tgt lo st) : y_V p l e R s m args below meth c Q G cI cZ cT nL h0 e0 k q ct pc lo (.int y :: .int x :: st) := fun H locs ls hP hD hS h => lv_icmp_ge X.1.1 X.1.2.1 hd ht (fun _ => kk H locs ls hP hD hS h) (fun q9 => absurd hn q9)
theorem y_obj (X : y_X p s m args meth c cc nL own Ts G cI cZ cT) {idx x : Nat} (hl : Cond.methodLink own idx Lib.objectInit ∈ Ts) (hi : Cond.instanceMethod Lib.objectInit ∈ Ts) (hc : Cond.code Lib.objectInit ⟨#[0xb1]⟩ 1 none ∈ Ts) (hfr : 1 ≤ R.frames) (hlo : (st.map fun v => v.category).sum + 12 ≤ R.locals) (hd : decode cc pc = .ok (.invokespecial idx, 3)) (kk : y_V p l e R s m args below meth c Q G cI cZ cT nL h0 e0 k q ct (pc + 3) lo st) : y_V p l e R s m args below meth c Q G cI cZ cT nL h0 e0 k q ct pc lo (.ref x :: st) := fun H locs ls hP hD hS h => W.objInit X.1.1 X.1.2.1 X.1.2.2.2.1 (X.1.2.2.2.2 _ hl) (X.1.2.2.2.2 _ hi) (X.1.2.2.2.2 _ hc) rfl (h.1.trans X.1.2.2.1.symm) rfl hd hfr (by show 2 * 0 + _ + 12 ≤ _; omega) (W.eq rfl (kk H locs ls hP hD hS h))
theorem y_new (X : y_X p s m args meth c cc nL own Ts G cI cZ cT) {ci N idx : Nat} {C : String} {T : u_T} {ty0 : Nat → FieldType} {fs : List Value} (hin : ∀ w ∈ u_ws C T N, w ∈ Ts) (hty : ∀ k, k < N → parseFieldDescriptor (T k).2.2.1 = some (ty0 k)) (hcl : Cond.classLink own idx C ∈ Ts) (hinst : Cond.instantiable C N ∈ Ts) (hini : Cond.initialized C ∈ Ts) (hc : vwCl[ci]? = some (C, T, N)) (hfs : ∀ j, j < N → defaultValue (ty0 j) = vp_V fs j) (hk : k + 1 ≤ R.cells) (hq : q + N ≤ R.slots) (hd : decode cc pc = .ok (.new idx, 3)) (kk : y_V p l e R s m args below meth c Q G cI cZ cT nL h0 e0 (k + 1) (q + N) (va_up ct k (.inr (ci, fs))) (pc + 3) lo (.ref (s.heap.size + k) :: st)) : y_V p l e R s m args below meth c Q G cI cZ cT nL h0 e0 k q ct pc lo st := fun H locs ls hP hD hS h =>
  va_new (ci := ci) (fs := fs) X.1.1 X.1.2.1 X.1.2.2.2.2 hin ty0 hty X.1.2.2.2.1 (X.1.2.2.2.2 _ hcl) (X.1.2.2.2.2 _ hinst) (X.1.2.2.2.2 _ hini) X.2.1 hP hD hS (y_hA h0 s.heap.size) hc hfs hk hq hd (fun x H1 hP1 hD1 hS1 => y_sz fun hz => by
    obtain rfl := y_pig hP1 hD1 hz
    rw [y_push] at hP1 hD1
    exact kk H1 locs ls hP1 hD1 hS1 h)
theorem y_newI (X : y_X p s m args meth c cc nL own Ts G cI cZ cT) {n : Int32} (N : Nat) (harr : Cond.arrayClass .int ∈ Ts) (hn : ¬ n < 0) (hN : n.toNatClampNeg = N) (hb : N * componentBytes .int ≤ 536870912) (hk : k + 1 ≤ R.cells) (hq : q + N ≤ R.slots) (hd : decode cc pc = .ok (.newarray .int, 2)) (kk : y_V p l e R s m args below meth c Q G cI cZ cT nL h0 e0 (k + 1) (q + N) (va_up ct k (.inl (cI, N, .inl (fun _ => 0)))) (pc + 2) lo (.ref (s.heap.size + k) :: st)) : y_V p l e R s m args below meth c Q G cI cZ cT nL h0 e0 k q ct pc lo (.int n :: st) := fun H locs ls hP hD hS h =>
  va_newa (atype := .int) (ty := .int) (a0 := (N, .inl (fun _ => 0))) X.1.1 X.1.2.1 (X.1.2.2.2.2 _ harr) rfl X.2.1 hP hD hS (y_hA h0 s.heap.size) (fun _ => rfl) hn hN hb hk hq hd (fun x cA H1 hK1 hP1 hD1 hS1 => y_sz fun hz => by
    have e1 : cA = cI := by
      have g1 := (hK1.2 3 _ rfl).2
      have g2 := (X.2.1.2 0 _ rfl).2
      exact Option.some.inj (g1.symm.trans g2)
    subst e1
    obtain rfl := y_pig hP1 hD1 hz
    rw [y_push] at hP1 hD1
    exact kk H1 locs ls hP1 hD1 hS1 h)
theorem y_newZ (X : y_X p s m args meth c cc nL own Ts G cI cZ cT) {n : Int32} (N : Nat) (harr : Cond.arrayClass .boolean ∈ Ts) (hn : ¬ n < 0) (hN : n.toNatClampNeg = N) (hb : N * componentBytes .boolean ≤ 536870912) (hk : k + 1 ≤ R.cells) (hq : q + N ≤ R.slots) (hd : decode cc pc = .ok (.newarray .boolean, 2)) (kk : y_V p l e R s m args below meth c Q G cI cZ cT nL h0 e0 (k + 1) (q + N) (va_up ct k (.inl (cZ, N, .inl (fun _ => 0)))) (pc + 2) lo (.ref (s.heap.size + k) :: st)) : y_V p l e R s m args below meth c Q G cI cZ cT nL h0 e0 k q ct pc lo (.int n :: st) := fun H locs ls hP hD hS h =>
  va_newa (atype := .boolean) (ty := .boolean) (a0 := (N, .inl (fun _ => 0))) X.1.1 X.1.2.1 (X.1.2.2.2.2 _ harr) rfl X.2.1 hP hD hS (y_hA h0 s.heap.size) (fun _ => rfl) hn hN hb hk hq hd (fun x cA H1 hK1 hP1 hD1 hS1 => y_sz fun hz => by
    have e1 : cA = cZ := by
      have g1 := (hK1.2 3 _ rfl).2
      have g2 := (X.2.1.2 1 _ rfl).2
      exact Option.some.inj (g1.symm.trans g2)
    subst e1
    obtain rfl := y_pig hP1 hD1 hz
    rw [y_push] at hP1 hD1
    exact kk H1 locs ls hP1 hD1 hS1 h)
theorem y_newT (X : y_X p s m args meth c cc nL own Ts G cI cZ cT) {n : Int32} {idx : Nat} (N : Nat) (hcl : Cond.classLink own idx "SapperWar$Team" ∈ Ts) (hn : ¬ n < 0) (hN : n.toNatClampNeg = N) (hb : N * 4 ≤ 536870912) (hk : k + 1 ≤ R.cells) (hq : q + N ≤ R.slots) (hd : decode cc pc = .ok (.anewarray idx, 3)) (kk : y_V p l e R s m args below meth c Q G cI cZ cT nL h0 e0 (k + 1) (q + N) (va_up ct k (.inl (cT, N, .inr (.inr (.inr (.inr (fun _ => none))))))) (pc + 3) lo (.ref (s.heap.size + k) :: st)) : y_V p l e R s m args below meth c Q G cI cZ cT nL h0 e0 k q ct pc lo (.int n :: st) := fun H locs ls hP hD hS h =>
  va_newq X.1.1 X.1.2.1 X.1.2.2.2.1 (X.1.2.2.2.2 _ hcl) X.2.2.1.2.2.2 X.2.1 hP hD hS (y_hA h0 s.heap.size) hn hN hb hk hq hd (fun x cA H1 hK1 hP1 hD1 hS1 => y_sz fun hz => by
    have e1 : cA = cT := by
      obtain ⟨_, _, _, _, _, g1⟩ := (hK1.2 3 _ rfl).2
      obtain ⟨_, _, _, _, _, g2⟩ := (X.2.1.2 2 _ rfl).2
      exact Option.some.inj (g1.symm.trans g2)
    subst e1
    obtain rfl := y_pig hP1 hD1 hz
    rw [y_push] at hP1 hD1
    exact kk H1 locs ls hP1 hD1 hS1 h)
theorem y_putF (X : y_X p s m args meth c cc nL own Ts G cI cZ cT) (hin9 : meth.name = "<init>") {ci N idx : Nat} {fs : List Value} {C : String} {T : u_T} {ty0 : Nat → FieldType} (hcl : vwCl[ci]? = some (C, T, N)) (f : Nat) (hf : f < N) (hin : ∀ w ∈ u_ws C T N, w ∈ Ts) (hlink : Cond.fieldLink own idx C (T f).2.1 (T f).2.2.1 ∈ Ts) (hCC : (T f).1 = C) (hty : ∀ k, k < N → parseFieldDescriptor (T k).2.2.1 = some (ty0 k)) (hnm : ∀ a, a < N → ∀ b, b < N → a ≠ b → (T a).2.1 ≠ (T b).2.1) (hfin : (T f).2.2.2 = true) (hown : C = own) {ty : FieldType} {v : Value} (hpd : parseFieldDescriptor (T f).2.2.1 = some ty) (hnv : narrow ty v = v) (hfit : fits ty v = true) (hl : f < fs.length) (hd : decode cc pc = .ok (.putfield idx, 3)) (kk : y_V p l e R s m args below meth c Q G cI cZ cT nL h0 (.inr (ci, fs.set f v)) k q ct (pc + 3) lo st) : y_V p l e R s m args below meth c Q G cI cZ cT nL h0 (.inr (ci, fs)) k q ct pc lo (v :: .ref h0 :: st) := fun H locs ls hP hD hS h =>
  va_putF X.1.1 X.1.2.1 X.1.2.2.2.2 hin ty0 hty hnm X.1.2.2.2.1 X.2.1 hP hD hS 0 rfl hcl f hf (X.1.2.2.2.2 _ hlink) (fun x q => by rw [hCC] at q; exact q) hfin hin9 (hCC.trans hown) hpd hnv hfit hl hd (fun H1 locs1 hP1 hD1 hS1 => kk H1 locs1 ls hP1 hD1 hS1 h)
theorem y_put (X : y_X p s m args meth c cc nL own Ts G cI cZ cT) {ci N idx : Nat} {fs : List Value} {C : String} {T : u_T} {ty0 : Nat → FieldType} (hcl : vwCl[ci]? = some (C, T, N)) (f : Nat) (hf : f < N) (hin : ∀ w ∈ u_ws C T N, w ∈ Ts) (hlink : Cond.fieldLink own idx C (T f).2.1 (T f).2.2.1 ∈ Ts) (hCC : (T f).1 = C) (hty : ∀ k, k < N → parseFieldDescriptor (T k).2.2.1 = some (ty0 k)) (hnm : ∀ a, a < N → ∀ b, b < N → a ≠ b → (T a).2.1 ≠ (T b).2.1) (hfin : (T f).2.2.2 = false) {ty : FieldType} {v : Value} (hpd : parseFieldDescriptor (T f).2.2.1 = some ty) (hnv : narrow ty v = v) (hfit : fits ty v = true) (hl : f < fs.length) (hd : decode cc pc = .ok (.putfield idx, 3)) (kk : y_V p l e R s m args below meth c Q G cI cZ cT nL h0 (.inr (ci, fs.set f v)) k q ct (pc + 3) lo st) : y_V p l e R s m args below meth c Q G cI cZ cT nL h0 (.inr (ci, fs)) k q ct pc lo (v :: .ref h0 :: st) := fun H locs ls hP hD hS h =>
  va_put X.1.1 X.1.2.1 X.1.2.2.2.2 hin ty0 hty hnm X.1.2.2.2.1 X.2.1 hP hD hS 0 rfl hcl f hf (X.1.2.2.2.2 _ hlink) (fun x q => by rw [hCC] at q; exact q) hfin hpd hnv hfit hl hd (fun H1 locs1 hP1 hD1 hS1 => kk H1 locs1 ls hP1 hD1 hS1 h)
theorem y_get (X : y_X p s m args meth c cc nL own Ts G cI cZ cT) {ci N idx : Nat} {fs : List Value} {C : String} {T : u_T} {ty0 : Nat → FieldType} (hcl : vwCl[ci]? = some (C, T, N)) (f : Nat) (hf : f < N) (hin : ∀ w ∈ u_ws C T N, w ∈ Ts) (hlink : Cond.fieldLink own idx C (T f).2.1 (T f).2.2.1 ∈ Ts) (hCC : (T f).1 = C) {v : Value} (hv : fs[f]? = some v) (hd : decode cc pc = .ok (.getfield idx, 3)) (kk : y_V p l e R s m args below meth c Q G cI cZ cT nL h0 (.inr (ci, fs)) k q ct (pc + 3) lo (v :: st)) : y_V p l e R s m args below meth c Q G cI cZ cT nL h0 (.inr (ci, fs)) k q ct pc lo (.ref h0 :: st) := fun H locs ls hP hD hS h =>
  va_get X.1.1 X.1.2.1 X.1.2.2.2.2 hin X.1.2.2.2.1 X.2.1 hP 0 rfl hcl f hf (X.1.2.2.2.2 _ hlink) (fun x q => by rw [hCC] at q; exact q) hv hd (kk H locs ls hP hD hS h)
theorem y_astT (X : y_X p s m args meth c cc nL own Ts G cI cZ cT) (i j : Nat) (hi : i < k) (hj : j < k) {n a : Nat} {f : Nat → Option Nat} {fs : List Value} {x : Int32} (ha : ct i = .inl (cT, n, .inr (.inr (.inr (.inr f))))) (ho : ct j = .inr (3, fs)) (hx : x = nI a) (han : a < n) (hn : n < 2 ^ 31) (hd : decode cc pc = .ok (.aastore, 1)) (kk : y_V p l e R s m args below meth c Q G cI cZ cT nL h0 e0 k q (va_up ct i (.inl (cT, n, .inr (.inr (.inr (.inr (va_up f a (some (s.heap.size + j))))))))) (pc + 1) lo st) : y_V p l e R s m args below meth c Q G cI cZ cT nL h0 e0 k q ct pc lo (.ref (s.heap.size + j) :: .int x :: .ref (s.heap.size + i) :: st) := fun H locs ls hP hD hS h => by
  subst hx
  refine va_astq X.1.1 X.1.2.1 X.2.1 hP hD hS (i + 1) 2 (j + 1) 3 (r := (RX3, TX3, 16)) (by rw [y_w_s _ _ _ _ hi, ha]) rfl (by rw [y_w_s _ _ _ _ hj, ho]) rfl (vp_in_nI han hn) hd (fun H1 locs1 hP1 hD1 hS1 => ?_)
  rw [nI_clamp (Nat.lt_trans han hn), y_setS] at hP1 hD1
  exact kk H1 locs1 ls hP1 hD1 hS1 h
theorem y_ct {ct' : Nat → va_E} (he : ∀ i, i < k → ct i = ct' i) (kk : y_V p l e R s m args below meth c Q G cI cZ cT nL h0 e0 k q ct' pc lo st) : y_V p l e R s m args below meth c Q G cI cZ cT nL h0 e0 k q ct pc lo st := fun H locs ls hP hD hS h => by
  have e : y_w h0 s.heap.size e0 k ct = y_w h0 s.heap.size e0 k ct' := by
    unfold y_w
    congr 1
    exact List.map_congr_left fun i hi => by rw [he i (List.mem_range.mp hi)]
  rw [e] at hP hD
  exact kk H locs ls hP hD hS h
theorem y_lo (ks : List Nat) (hl : lv_pick lo ks = lo') (kk : y_V p l e R s m args below meth c Q G cI cZ cT nL h0 e0 k q ct pc lo' st) : y_V p l e R s m args below meth c Q G cI cZ cT nL h0 e0 k q ct pc lo st := fun H locs ls hP hD hS h => kk H locs ls hP hD hS (lv_sub h ks hl)
theorem y_blind (G : va_G) (cI cZ cT : ClassId) (h0 sz : Nat) (e0 : va_E) : FrameBlind (y_Pc G cI cZ cT h0 sz e0) := fun a U g mk q => by
  obtain ⟨q0, q1, qP, qK, qN⟩ := q
  exact ⟨q0, q1, qP, va_K.moved (u := U) (U := U.calling g mk a) (Vm.Alike.refl U.vm) qK, y_N.same (u := U) (U := U.calling g mk a) rfl qN⟩
/-- the cells behind a constructor's call: the object at place j holds e1, mk new cells behind the k that stood -/
def y_more (ct : Nat → va_E) (k j : Nat) (e1 : va_E) (c1 : Nat → va_E) : Nat → va_E := fun i => if i = j then e1 else if i < k then ct i else c1 (i - k)
theorem y_back {H H1 : Heap} {sz j mk : Nat} {e1 : va_E} {c1 : Nat → va_E} (hj : j < k) (hP : va_P G vwCl (y_w h0 sz e0 k ct) H) (hH : H.size = sz + k) (hh : h0 < sz) (hk1 : ∀ x : Nat, x < H.size → ¬ y_A (sz + j) H.size x → H1[x]? = H[x]?) (hP1 : va_P G vwCl (y_w (sz + j) H.size e1 mk c1) H1) : va_P G vwCl (y_w h0 sz e0 (k + mk) (y_more ct k j e1 c1)) H1 := by
  intro i x hx
  rcases y_w_lt hx with ⟨rfl, rfl⟩ | ⟨i', hi, rfl, rfl⟩
  · refine (hP 0 _ (y_w_0 h0 sz e0 k ct)).kept (hk1 h0 (by omega) (fun q => ?_))
    rcases q with q | q <;> omega
  · by_cases h1 : i' = j
    · subst h1
      have e : y_more ct k i' e1 c1 i' = e1 := by simp [y_more]
      rw [e]
      exact hP1 0 _ (y_w_0 _ _ _ _ _)
    · by_cases h2 : i' < k
      · have e : y_more ct k j e1 c1 i' = ct i' := by simp [y_more, h1, h2]
        rw [e]
        refine (hP (i' + 1) _ (y_w_s h0 sz e0 ct h2)).kept (hk1 (sz + i') (by omega) (fun q => ?_))
        rcases q with q | q <;> omega
      · have e : y_more ct k j e1 c1 i' = c1 (i' - k) := by simp [y_more, h1, h2]
        rw [e]
        have := hP1 (i' - k + 1) _ (y_w_s (sz + j) H.size e1 c1 (show i' - k < mk by omega))
        rw [hH, show sz + k + (i' - k) = sz + i' by omega] at this
        exact this
theorem y_callI (X : y_X p s m args meth c cc nL own Ts G cI cZ cT) {y : MethodName} {bytes : ByteArray} {maxL idx mk ms : Nat} {ws ws' : List Cond} {rm : Room} {e1 : Nat → Nat → va_E} {ct1 : Nat → Nat → Nat → va_E} {x0 : va_E} (j : Nat) (hj : j < k) (hM : zN l G cI cZ cT y ws rm x0 e1 mk ms ct1) (hc : ct j = x0) (hh : h0 < s.heap.size) (hlink : Cond.methodLink own idx y ∈ Ts) (hT : GoodIn Ts ws) (hini : Cond.initialized y.cls ∈ Ts) (hins : Cond.instanceMethod y ∈ Ts) (hyn : y.name = "<init>") (hw : ws = Cond.code y bytes maxL none :: ws') (hrm : rm.cells = mk ∧ rm.slots = ms) (hy : y.cls ≠ "java/lang/invoke/MethodHandle" ∧ y.cls ≠ "java/lang/invoke/VarHandle" ∧ (parseMethodDescriptor y.desc).map (fun d => d.parameters.length) = some 0) (hR : rm.frames + 1 ≤ R.frames ∧ 8 + (maxL + 11) + rm.locals ≤ R.locals) (hW : (rest.map fun v => v.category).sum ≤ 8) (hf : k + mk ≤ R.cells ∧ q + ms ≤ R.slots) (hd : decode cc pc = .ok (.invokespecial idx, 3)) (kk : y_V p l e R s m args below meth c Q G cI cZ cT nL h0 e0 (k + mk) (q + ms) (y_more ct k j (e1 (s.heap.size + j) (s.heap.size + k)) (ct1 (s.heap.size + j) (s.heap.size + k))) (pc + 3) lo rest) : y_V p l e R s m args below meth c Q G cI cZ cT nL h0 e0 k q ct pc lo (.ref (s.heap.size + j) :: rest) := fun H locs ls hP hD hS h => y_sz fun hz => by
  have hH := y_full hP hS.1 hz
  have hPj : va_P G vwCl [(s.heap.size + j, x0)] H := fun i x hx => by
    have hi : i = 0 := by have := (List.getElem?_eq_some_iff.mp hx).1; simpa using this
    subst hi
    cases hx
    have := hP (j + 1) _ (y_w_s h0 s.heap.size e0 ct hj)
    rw [hc] at this
    exact this
  have hFA : ∀ x, y_A (s.heap.size + j) H.size x → y_A h0 s.heap.size x := fun x hx => by rcases hx with hx | hx <;> exact Or.inr (by omega)
  refine va_callv (va_runI (As := []) (rest := rest) X.1 (hM (s.heap.size + j) H.size) (cwI 0 X.1.2.2.2.2 hT hw hrm.1 hrm.2 (X.1.2.2.2.2 _ hini) (X.1.2.2.2.2 _ hlink) (X.1.2.2.2.2 _ hins) hyn hy hR) ⟨y_blind G cI cZ cT _ _ _, fun U hU hW9 => ⟨rfl, by rw [hU], by rw [hU]; exact hPj, va_K.moved hW9.alike X.2.1, y_N.warm hW9 X.2.2.1⟩⟩ rfl rfl h.1 rfl (lv_room hW) hd hf) hS (fun x _ g => hFA x g) hFA (fun u t H1 locs1 ht hvm hw9 hB hz1 hk1 hS1 => ?_)
  rw [ht] at hB
  have hP1 := y_back hj hP hH hh hk1 hB
  rw [hH] at hP1
  exact kk H1 locs1 ls hP1 (y_wD hh _ _ _) hS1 h
theorem y_callIN (X : y_X p s m args meth c cc nL own Ts G cI cZ cT) {y : MethodName} {bytes : ByteArray} {maxL idx mk ms : Nat} {ws ws' : List Cond} {rm : Room} {e1 : Nat → Nat → va_E} {ct1 : Nat → Nat → Nat → va_E} {x0 : va_E} (j : Nat) (hj : j < k) (hM : zN l G cI cZ cT y ws rm x0 e1 mk ms ct1) (hc : ct j = x0) (hh : h0 < s.heap.size) (hnest : va_Nw (.methodLinkNest own idx y RX5) s) (hT : GoodIn Ts ws) (hini : Cond.initialized y.cls ∈ Ts) (hins : Cond.instanceMethod y ∈ Ts) (hyn : y.name = "<init>") (hw : ws = Cond.code y bytes maxL none :: ws') (hrm : rm.cells = mk ∧ rm.slots = ms) (hy : y.cls ≠ "java/lang/invoke/MethodHandle" ∧ y.cls ≠ "java/lang/invoke/VarHandle" ∧ (parseMethodDescriptor y.desc).map (fun d => d.parameters.length) = some 0) (hR : rm.frames + 1 ≤ R.frames ∧ 8 + (maxL + 11) + rm.locals ≤ R.locals) (hW : (rest.map fun v => v.category).sum ≤ 8) (hf : k + mk ≤ R.cells ∧ q + ms ≤ R.slots) (hd : decode cc pc = .ok (.invokespecial idx, 3)) (kk : y_V p l e R s m args below meth c Q G cI cZ cT nL h0 e0 (k + mk) (q + ms) (y_more ct k j (e1 (s.heap.size + j) (s.heap.size + k)) (ct1 (s.heap.size + j) (s.heap.size + k))) (pc + 3) lo rest) : y_V p l e R s m args below meth c Q G cI cZ cT nL h0 e0 k q ct pc lo (.ref (s.heap.size + j) :: rest) := fun H locs ls hP hD hS h => y_sz fun hz => by
  have hH := y_full hP hS.1 hz
  have hPj : va_P G vwCl [(s.heap.size + j, x0)] H := fun i x hx => by
    have hi : i = 0 := by have := (List.getElem?_eq_some_iff.mp hx).1; simpa using this
    subst hi
    cases hx
    have := hP (j + 1) _ (y_w_s h0 s.heap.size e0 ct hj)
    rw [hc] at this
    exact this
  have hFA : ∀ x, y_A (s.heap.size + j) H.size x → y_A h0 s.heap.size x := fun x hx => by rcases hx with hx | hx <;> exact Or.inr (by omega)
  refine va_callv (va_runIN (As := []) (rest := rest) X.1 (hM (s.heap.size + j) H.size) ⟨va_cnB 0 X.1.2.2.2.2 hT hw hrm.1 hrm.2 hnest (X.1.2.2.2.2 _ hini) hy hR, hyn, X.1.2.2.2.2 _ hins⟩ ⟨y_blind G cI cZ cT _ _ _, fun U hU hW9 => ⟨rfl, by rw [hU], by rw [hU]; exact hPj, va_K.moved hW9.alike X.2.1, y_N.warm hW9 X.2.2.1⟩⟩ rfl rfl h.1 rfl (lv_room hW) hd hf) hS (fun x _ g => hFA x g) hFA (fun u t H1 locs1 ht hvm hw9 hB hz1 hk1 hS1 => ?_)
  rw [ht] at hB
  have hP1 := y_back hj hP hH hh hk1 hB
  rw [hH] at hP1
  exact kk H1 locs1 ls hP1 (y_wD hh _ _ _) hS1 h
theorem y_end (X : y_X p s m args meth c cc nL own Ts G cI cZ cT) {e1 : Nat → Nat → va_E} {ct1 : Nat → Nat → Nat → va_E} (he : e0 = e1 h0 s.heap.size) (hc : ∀ i, i < k → ct i = ct1 h0 s.heap.size i) (hd : decode cc pc = .ok (.return_, 1)) : y_V p l e R s m args below meth c (MQ below (va_Qv (fun _ : Unit => True) (fun _ t => va_P G vwCl (y_w h0 s.heap.size (e1 h0 s.heap.size) k (ct1 h0 s.heap.size)) t.heap) (y_A h0 s.heap.size)) args s k q (y_A h0 s.heap.size)) G cI cZ cT nL h0 e0 k q ct pc lo [] := y_ct hc fun H locs ls hP hD hS h => W.vret X.1.1 X.1.2.1 X.2.2.2.1 (fun t ht hW => ⟨⟨(), rfl, trivial, by show va_P _ _ _ t.heap; rw [ht, ← he]; exact hP⟩, hS.F ht⟩) hS.2.2 hd X.2.2.2.2
theorem y_e {e1 : va_E} (he : e0 = e1) (kk : y_V p l e R s m args below meth c Q G cI cZ cT nL h0 e1 k q ct pc lo st) : y_V p l e R s m args below meth c Q G cI cZ cT nL h0 e0 k q ct pc lo st := he ▸ kk
theorem y_alen (X : y_X p s m args meth c cc nL own Ts G cI cZ cT) {n : Nat} {f : Nat → Int32} {v : Int32} (hv : Int32.ofNat n = v) (hd : decode cc pc = .ok (.arraylength, 1)) (kk : y_V p l e R s m args below meth c Q G cI cZ cT nL h0 (.inl (cI, n, .inl f)) k q ct (pc + 1) lo (.int v :: st)) : y_V p l e R s m args below meth c Q G cI cZ cT nL h0 (.inl (cI, n, .inl f)) k q ct pc lo (.ref h0 :: st) := fun H locs ls hP hD hS h => va_alen X.1.1 X.1.2.1 X.2.1 hP 0 0 rfl rfl hv hd (kk H locs ls hP hD hS h)
theorem y_iast (X : y_X p s m args meth c cc nL own Ts G cI cZ cT) {n a : Nat} {f : Nat → Int32} {i x : Int32} (hi : i = nI a) (ha : a < n) (hn : n < 2 ^ 31) (hd : decode cc pc = .ok (.iastore, 1)) (kk : y_V p l e R s m args below meth c Q G cI cZ cT nL h0 (.inl (cI, n, .inl (upd f a x))) k q ct (pc + 1) lo st) : y_V p l e R s m args below meth c Q G cI cZ cT nL h0 (.inl (cI, n, .inl f)) k q ct pc lo (.int x :: .int i :: .ref h0 :: st) := fun H locs ls hP hD hS h => by
  subst hi
  refine va_iast X.1.1 X.1.2.1 X.2.1 hP hD hS 0 0 rfl rfl (vp_in_nI ha hn) hd (fun H1 locs1 hP1 hD1 hS1 => ?_)
  rw [nI_clamp (Nat.lt_trans ha hn)] at hP1 hD1
  exact kk H1 locs1 ls hP1 hD1 hS1 h
theorem y_ncmp_ge (X : y_X p s m args meth c cc nL own Ts G cI cZ cT) {x y : Int32} (a b : Nat) (hx : x = nI a) (hy : y = nI b) (ha : a < 2 ^ 31) (hb : b < 2 ^ 31) {off : Int} {tgt : Nat} (hd : decode cc pc = .ok (.if_icmp .ge off, 3)) (ht : (pc : Int) + off = (tgt : Int)) (kt : b ≤ a → y_V p l e R s m args below meth c Q G cI cZ cT nL h0 e0 k q ct tgt lo st) (kf : a < b → y_V p l e R s m args below meth c Q G cI cZ cT nL h0 e0 k q ct (pc + 3) lo st) : y_V p l e R s m args below meth c Q G cI cZ cT nL h0 e0 k q ct pc lo (.int y :: .int x :: st) := fun H locs ls hP hD hS h => by
  subst hx; subst hy
  exact lv_icmp_ge X.1.1 X.1.2.1 hd ht (fun q9 => kt ((nI_leI hb ha).mp q9) H locs ls hP hD hS h) (fun q9 => kf (Nat.lt_of_not_le (fun r => q9 ((nI_leI hb ha).mpr r))) H locs ls hP hD hS h)
theorem y_congI {n : Nat} {f f' : Nat → Int32} (hf : ∀ i, i < n → f i = f' i) (kk : y_V p l e R s m args below meth c Q G cI cZ cT nL h0 (.inl (cI, n, .inl f')) k q ct pc lo st) : y_V p l e R s m args below meth c Q G cI cZ cT nL h0 (.inl (cI, n, .inl f)) k q ct pc lo st := fun H locs ls hP hD hS h => kk H locs ls (va_P_cong (j := 0) hP hD rfl hf) (hD.set (p := 0) rfl) hS h
theorem y_congT (i : Nat) (hi : i < k) {n : Nat} {f f' : Nat → Option Nat} (ha : ct i = .inl (cT, n, .inr (.inr (.inr (.inr f))))) (hf : ∀ t, t < n → f t = f' t) (kk : y_V p l e R s m args below meth c Q G cI cZ cT nL h0 e0 k q (va_up ct i (.inl (cT, n, .inr (.inr (.inr (.inr f')))))) pc lo st) : y_V p l e R s m args below meth c Q G cI cZ cT nL h0 e0 k q ct pc lo st := fun H locs ls hP hD hS h => by
  have hg : (y_w h0 s.heap.size e0 k ct)[i + 1]? = some (s.heap.size + i, .inl (cT, n, .inr (.inr (.inr (.inr f))))) := by rw [y_w_s _ _ _ _ hi, ha]
  have h1 : H[s.heap.size + i]? = some (vp_cell cT (n, .inr (.inr (.inr (.inr f))))) := hP (i + 1) _ hg
  have e : (Array.ofFn (n := n) fun j => va_rf (f j.val)) = Array.ofFn (n := n) fun j => va_rf (f' j.val) := by
    congr 1
    funext z
    rw [hf z.val z.isLt]
  have hP1 := hP.set hD hg (e := .inl (cT, n, .inr (.inr (.inr (.inr f'))))) (H1 := H) (by show H[_]? = some (vp_cell _ _); rw [h1, vp_cell_q, vp_cell_q]; unfold arrV; rw [e]) (fun _ _ => rfl)
  have hD1 := hD.set (e := .inl (cT, n, .inr (.inr (.inr (.inr f'))))) hg
  rw [y_setS] at hP1 hD1
  exact kk H locs ls hP1 hD1 hS h
def zF (l : Launch) (G : va_G) (cI cZ cT : ClassId) (y : MethodName) (ws : List Cond) (rm : Room) (n : Nat) (f : Nat → Int32) (v : Int32) : Prop :=
  ∀ a sz : Nat, Met l y ws rm (va_Pc [.ref a, .int v] (fun U => U.heap.size = sz ∧ va_P G vwCl [(a, .inl (cI, n, .inl f))] U.heap ∧ va_K G vwCl (z_ty cI cZ cT) U ∧ y_N U)) (va_Qv (fun _ : Unit => True) (fun _ t => va_P G vwCl (y_w a sz (.inl (cI, n, .inl (fun _ => v))) 0 (fun _ => .inr (0, []))) t.heap) (y_A a sz)) 0 0 (y_A a sz)
theorem y_ofF {y : MethodName} {ws ws' : List Cond} {rm : Room} {maxL n : Nat} {f : Nat → Int32} {v : Int32} (hy : plainName y.cls = true) (hw : ws = Cond.code y cc maxL none :: ws') (h1 : 2 ≤ maxL)
    (body : ∀ (p : Program) (e : Env) (s : State) (m : MethodId) (args : Array Value) (below : List Frame) (meth : Method) (c : Code) (h0 : Nat), y_X p s m args meth c cc maxL y.cls ws G cI cZ cT → y_V p l e (headSpec ws rm).room s m args below meth c (MQ below (va_Qv (fun _ : Unit => True) (fun _ t => va_P G vwCl (y_w h0 s.heap.size (.inl (cI, n, .inl (fun _ => v))) 0 (fun _ => .inr (0, []))) t.heap) (y_A h0 s.heap.size)) args s 0 0 (y_A h0 s.heap.size)) G cI cZ cT maxL h0 (.inl (cI, n, .inl f)) 0 0 (fun _ => .inr (0, [])) 0 [(0, .ref h0), (1, .int v)] []) : zF l G cI cZ cT y ws rm n f v := by
  intro h0 sz
  refine Met.ofW (cc := cc) (maxL := maxL) (ret := none) hy hw ?_
  intro p e s m args below meth c s₁ B hml hv
  obtain ⟨rfl, hsz, hP, hK, hN⟩ := hv
  subst hsz
  have hts := atoms_spec (ws := ws) B.pre
  have hown : s.vm.findClass y.cls = some m.cls := findClass_of_methodNamed B.named
  have hh : h0 < s.heap.size := (hP 0 _ rfl).lt
  rw [lg_entry_eq]
  exact body p e s m _ below meth c h0 ⟨⟨B.exec, B.bytes, hml, hown, hts⟩, hK, hN, B.returns, B.notSynchronized⟩ s.heap [] _ hP (y_wD hh _ 0 _) va_S.rf (lv_entry [.ref h0, .int v] (by simpa [lg_sl, Value.category] using h1))
theorem y_fill (X : y_X p s m args meth c cc nL own Ts G cI cZ cT) {y : MethodName} {bytes : ByteArray} {maxL idx n : Nat} {ws ws' : List Cond} {rm : Room} {f : Nat → Int32} {v : Int32} (j : Nat) (hj : j < k) (hM : zF l G cI cZ cT y ws rm n f v) (hc : ct j = .inl (cI, n, .inl f)) (hh : h0 < s.heap.size) (hT : GoodIn Ts (va_wsS own idx y ws)) (hw : ws = Cond.code y bytes maxL none :: ws') (hrm : rm.cells = 0 ∧ rm.slots = 0) (hy : y.cls ≠ "java/lang/invoke/MethodHandle" ∧ y.cls ≠ "java/lang/invoke/VarHandle" ∧ (parseMethodDescriptor y.desc).map (fun d => d.parameters.length) = some 2) (hR : rm.frames + 1 ≤ R.frames ∧ 8 + (maxL + 11) + rm.locals ≤ R.locals) (hW : (rest.map fun v => v.category).sum ≤ 8) (hf : k ≤ R.cells ∧ q ≤ R.slots) (hd : decode cc pc = .ok (.invokestatic idx, 3)) (kk : y_V p l e R s m args below meth c Q G cI cZ cT nL h0 e0 k q (va_up ct j (.inl (cI, n, .inl (fun _ => v)))) (pc + 3) lo rest) : y_V p l e R s m args below meth c Q G cI cZ cT nL h0 e0 k q ct pc lo (.int v :: .ref (s.heap.size + j) :: rest) := fun H locs ls hP hD hS h => y_sz fun hz => by
  have hH := y_full hP hS.1 hz
  have hPj : va_P G vwCl [(s.heap.size + j, .inl (cI, n, .inl f))] H := fun i x hx => by
    have hi : i = 0 := by have := (List.getElem?_eq_some_iff.mp hx).1; simpa using this
    subst hi
    cases hx
    have := hP (j + 1) _ (y_w_s h0 s.heap.size e0 ct hj)
    rw [hc] at this
    exact this
  have hFA : ∀ x, y_A (s.heap.size + j) H.size x → y_A h0 s.heap.size x := fun x hx => by rcases hx with hx | hx <;> exact Or.inr (by omega)
  have hbl : FrameBlind (va_Pc [.ref (s.heap.size + j), .int v] (fun U => U.heap.size = H.size ∧ va_P G vwCl [(s.heap.size + j, .inl (cI, n, .inl f))] U.heap ∧ va_K G vwCl (z_ty cI cZ cT) U ∧ y_N U)) := fun a U g mk q => by
    obtain ⟨q0, q1, qP, qK, qN⟩ := q
    exact ⟨q0, q1, qP, va_K.moved (u := U) (U := U.calling g mk a) (Vm.Alike.refl U.vm) qK, y_N.same (u := U) (U := U.calling g mk a) rfl qN⟩
  refine va_callv (va_runS (As := [.ref (s.heap.size + j), .int v]) (rest := rest) X.1 (hM (s.heap.size + j) H.size) (va_cwS 2 X.1.2.2.2.2 hT hw hrm.1 hrm.2 hy hR) ⟨hbl, fun U hU hW9 => ⟨rfl, by rw [hU], by rw [hU]; exact hPj, va_K.moved hW9.alike X.2.1, y_N.warm hW9 X.2.2.1⟩⟩ rfl rfl h.1 rfl (lv_room hW) hd ⟨hf.1, hf.2⟩) hS (fun x _ g => hFA x g) hFA (fun u t H1 locs1 ht hvm hw9 hB hz1 hk1 hS1 => ?_)
  rw [ht] at hB
  have hP1 := y_back hj hP hH hh hk1 hB
  have hP2 : va_P G vwCl (y_w h0 s.heap.size e0 k (va_up ct j (.inl (cI, n, .inl (fun _ => v))))) H1 := by
    have e : y_w h0 s.heap.size e0 k (va_up ct j (.inl (cI, n, .inl (fun _ => v)))) = y_w h0 s.heap.size e0 (k + 0) (y_more ct k j (.inl (cI, n, .inl (fun _ => v))) (fun _ => .inr (0, []))) := by
      unfold y_w
      congr 1
      exact List.map_congr_left fun i hi => by
        have : i < k := List.mem_range.mp hi
        simp [y_more, va_up, this]
    rw [e]
    exact hP1
  exact kk H1 locs1 ls hP2 (y_wD hh _ _ _) hS1 h
end ZY
