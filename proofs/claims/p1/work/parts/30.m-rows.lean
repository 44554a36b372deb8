section ZMM
variable {p : Program} {l : Launch} {e : Env} {R : Room} {s : State} {m : MethodId} {args : Array Value} {below : List Frame} {meth : Method} {c : Code} {Q : State → Prop}
variable {G : va_G} {nL k9 q9 : Nat} {cc : ByteArray} {own : String} {Ts : List Cond} {rt : Option FieldType} {tys : List (ClassId × FieldType)} {K : Nat × Nat × (Nat → Int32)} {A : Nat → Prop} {ws ws' : va_W} {pc : Nat} {lo lo' : List (Nat × Value)} {st rest : List Value} {cI cZ cT cB : ClassId} {o : Nat}
abbrev mS : Type := Nat → Nat → Int32
def m_up (M : mS) (k i : Nat) (x : Int32) : mS := fun k' => if k' = k then upd (M k) i x else M k'
def m_w (cI cZ : ClassId) (ad : Nat → Nat) (M : mS) : va_W :=
 [(ad 0, .inr (7, [.int (M 0 0), .ref (ad 1), .int (M 0 1), .ref (ad 2), .int (M 0 2), .int (M 0 3), .ref (ad 3), .ref (ad 4), .ref (ad 5), .ref (ad 6), .ref (ad 7), .ref (ad 8), .ref (ad 9), .ref (ad 13)])),
  (ad 1, .inl (cI, 200, .inl (M 1))), (ad 2, .inl (cI, 156, .inl (M 2))), (ad 3, .inl (cI, 144, .inl (M 3))), (ad 4, .inl (cI, 144, .inl (M 4))), (ad 5, .inl (cI, 144, .inl (M 5))), (ad 6, .inl (cI, 8, .inl (M 6))), (ad 7, .inl (cZ, 8, .inl (M 7))), (ad 8, .inl (cZ, 8, .inl (M 8))),
  (ad 9, .inr (6, [.int (M 9 0), .int (M 9 1), .ref (ad 10), .ref (ad 11), .ref (ad 12)])), (ad 10, .inl (cI, 1152, .inl (M 10))), (ad 11, .inl (cI, 80, .inl (M 11))), (ad 12, .inl (cI, 288, .inl (M 12))),
  (ad 13, .inr (6, [.int (M 13 0), .int (M 13 1), .ref (ad 14), .ref (ad 15), .ref (ad 16)])), (ad 14, .inl (cI, 1152, .inl (M 14))), (ad 15, .inl (cI, 80, .inl (M 15))), (ad 16, .inl (cI, 288, .inl (M 16)))]
def fz (j : Nat) : Int32 := if j % 8 = 0 then 3 else if j % 8 = 1 then -1 else 0
theorem fz_0 (k : Nat) : fz (8 * k) = 3 := by unfold fz; rw [if_pos (by omega)]
theorem fz_1 (k : Nat) : fz (8 * k + 1) = -1 := by unfold fz; rw [if_neg (by omega), if_pos (by omega)]
theorem fz_n (k c : Nat) (h : 2 ≤ c) (h8 : c < 8) : fz (8 * k + c) = 0 := by unfold fz; rw [if_neg (by omega), if_neg (by omega)]
/-- as it is made -/
def mfr (M : mS) : Prop := (M 0 1 = nI 0 ∧ M 0 2 = nI 0 ∧ M 0 3 = nI 0) ∧ (∀ j, j < 1152 → M 10 j = fz j) ∧ M 9 0 = nI 0 ∧ M 9 1 = nI 0
/-- but for a row that is written over and the hour -/
def mk5 (w : Nat) (M u : mS) : Prop := ∀ k i, k ≠ 5 → ¬ (k = w ∧ i = 0) → u k i = M k i
theorem mk5.rf {w : Nat} {M : mS} : mk5 w M M := fun _ _ _ _ => rfl
theorem mk5.tr {w : Nat} {M u v : mS} (h : mk5 w M u) (h2 : mk5 w u v) : mk5 w M v := fun k i a b => (h2 k i a b).trans (h k i a b)
theorem mk5.was {w : Nat} {M u : mS} (h : mk5 w M u) (i : Nat) (x : Int32) : mk5 w M (m_up u 5 i x) := fun k j a b => by
  unfold m_up; rw [if_neg a]; exact h k j a b
theorem mk5.hour {w : Nat} {M u : mS} (h : mk5 w M u) (x : Int32) : mk5 w M (m_up u w 0 x) := fun k j a b => by
  unfold m_up
  by_cases q : k = w
  · subst q
    rw [if_pos rfl]
    unfold upd
    rw [if_neg (fun g => b ⟨rfl, g⟩)]; exact h k j a b
  · rw [if_neg q]; exact h k j a b
def s_in (v lo hi : Int32) : Int32 := if v < lo then 0 else if hi < v then 0 else 1
theorem in_1 {v lo hi : Int32} (h1 : ¬ v < lo) (h2 : ¬ hi < v) : s_in v lo hi = 1 := by unfold s_in; rw [if_neg h1, if_neg h2]
theorem in_n {v lo hi : Int32} (h : ¬ (¬ v < lo ∧ ¬ hi < v)) : s_in v lo hi = 0 := by
  unfold s_in
  by_cases h1 : v < lo
  · rw [if_pos h1]
  · rw [if_neg h1, if_pos (Decidable.byContradiction fun q => h ⟨h1, q⟩)]
def s_cel (x y : Int32) : Int32 := if s_in x 0 11 = 0 then 0 else if s_in y 0 11 = 0 then 0 else 1
theorem up_to {x : Int32} {k : Nat} (hk : k < 1000) (h0 : ¬ x < 0) : x < nI (k + 1) ↔ ¬ nI k < x := by
  constructor
  · intro h
    obtain ⟨j, hj, e⟩ := nI_of2 (M := nI (k + 1)) (n := k + 1) (nI_toInt (by omega)) h0 (Int32.le_of_lt h)
    rw [e] at h ⊢
    have := (nI_ltI (a := j) (b := k + 1) (by omega) (by omega)).1 h
    exact nI_nlt (by omega) (by omega)
  · intro h
    obtain ⟨j, hj, e⟩ := nI_of2 (M := nI k) (n := k) (nI_toInt (by omega)) h0 (Int32.not_lt.1 h)
    rw [e]
    exact (nI_ltI (by omega) (by omega)).2 (by omega)
theorem cel_1 {x y : Int32} (h : pin x y) : s_cel x y = 1 := by
  have h1 : s_in x 0 11 = 1 := in_1 h.1.1 ((up_to (k := 11) (by decide) h.1.1).1 h.1.2)
  have h2 : s_in y 0 11 = 1 := in_1 h.2.1 ((up_to (k := 11) (by decide) h.2.1).1 h.2.2)
  unfold s_cel; rw [h1, h2]; rfl
theorem cel_0 {x y : Int32} (h : ¬ pin x y) : s_cel x y = 0 := by
  unfold s_cel
  by_cases h1 : s_in x 0 11 = 0
  · rw [if_pos h1]
  rw [if_neg h1]
  by_cases h2 : s_in y 0 11 = 0
  · rw [if_pos h2]
  exfalso
  have q : ∀ z : Int32, s_in z 0 11 ≠ 0 → ¬ z < 0 ∧ z < 12 := fun z hz => by
    have a : ¬ z < 0 := fun g => hz (in_n (fun q => q.1 g))
    exact ⟨a, (up_to (k := 11) (by decide) a).2 (fun g => hz (in_n (fun q => q.2 g)))⟩
  exact h ⟨q x h1, q y h2⟩
theorem team_n (t : Int32) : s_in t 0 (nI 0 - nI 1) = 0 := in_n (fun q => q.2 (by
  rcases Decidable.em (nI 0 - nI 1 < t) with g | g
  · exact g
  · exact absurd (Int32.lt_of_le_of_lt (Int32.not_lt.1 g) (by decide)) q.1))
theorem nI_m1 {k : Nat} (hk : k < 2 ^ 31) : nI k ≠ -1 := fun q => absurd (q ▸ (by decide : (-1 : Int32) < 0)) (nI_pos hk)
theorem j_getN (X : j_X p s m args meth c cc nL own Ts rt G tys) (q0 : Nat) {a ci N idx : Nat} {fs : List Value} {C : String} {T : u_T} (he : ws[q0]? = some (a, .inr (ci, fs))) (hcl : vwCl[ci]? = some (C, T, N)) (k : Nat) (hk : k < N) (hin : ∀ w ∈ u_ws C T N, w ∈ Ts) {ref host : String} (hlink : va_Nw (.fieldLinkNest own idx ref (T k).2.1 (T k).2.2.1 host) s) (hsame : ∀ x, s.fieldFound? (T k).1 (T k).2.1 (T k).2.2.1 = some x → s.fieldFound? ref (T k).2.1 (T k).2.2.1 = some x) {v : Value} (hv : fs[k]? = some v) (hd : decode cc pc = .ok (.getfield idx, 3)) (kk : j_V p l e R s m args below meth c Q G nL A k9 q9 ws (pc + 3) lo (v :: st)) : j_V p l e R s m args below meth c Q G nL A k9 q9 ws pc lo (.ref a :: st) := fun H locs ls hP hD hS h => va_getN X.1.1 X.1.2.1 X.1.2.2.2.2 hin X.1.2.2.2.1 X.2.1 hP q0 he hcl k hk (va_Nw.use rfl hlink) hsame hv hd (kk H locs ls hP hD hS h)
theorem j_putN (X : j_X p s m args meth c cc nL own Ts rt G tys) (q0 : Nat) {a ci N idx : Nat} {fs : List Value} {C : String} {T : u_T} (he : ws[q0]? = some (a, .inr (ci, fs))) (hcl : vwCl[ci]? = some (C, T, N)) (k : Nat) (hk : k < N) (hin : ∀ w ∈ u_ws C T N, w ∈ Ts) {ref host : String} (hlink : va_Nw (.fieldLinkNest own idx ref (T k).2.1 (T k).2.2.1 host) s) (hsame : ∀ x, s.fieldFound? (T k).1 (T k).2.1 (T k).2.2.1 = some x → s.fieldFound? ref (T k).2.1 (T k).2.2.1 = some x) {ty0 : Nat → FieldType} (hty : ∀ k, k < N → parseFieldDescriptor (T k).2.2.1 = some (ty0 k)) (hnm : ∀ a, a < N → ∀ b, b < N → a ≠ b → (T a).2.1 ≠ (T b).2.1) (hfin : (T k).2.2.2 = false) {ty : FieldType} {v : Value} (hpd : parseFieldDescriptor (T k).2.2.1 = some ty) (hnv : narrow ty v = v) (hfit : fits ty v = true) (hl : k < fs.length) (hd : decode cc pc = .ok (.putfield idx, 3)) (kk : j_V p l e R s m args below meth c Q G nL A k9 q9 (ws.set q0 (a, .inr (ci, fs.set k v))) (pc + 3) lo st) : j_V p l e R s m args below meth c Q G nL A k9 q9 ws pc lo (v :: .ref a :: st) := fun H locs ls hP hD hS h => va_putN X.1.1 X.1.2.1 X.1.2.2.2.2 hin ty0 hty hnm X.1.2.2.2.1 X.2.1 hP hD hS q0 he hcl k hk (va_Nw.use rfl hlink) hsame hfin hpd hnv hfit hl hd (fun H1 locs1 hP1 hD1 hS1 => kk H1 locs1 ls hP1 hD1 hS1 h)
theorem upd_0 {f : Nat → Int32} (hf : ∀ i, f i = 0) (j : Nat) {x : Int32} (hx : x = 0) : ∀ i, upd f j x i = 0 := fun i => by
  unfold upd; split
  · exact hx
  · exact hf i
theorem j_iast0 (X : j_X p s m args meth c cc nL own Ts rt G tys) (q0 t0 : Nat) {a : Nat} {cA : ClassId} {n : Nat} {f : Nat → Int32} (he : ws[q0]? = some (a, .inl (cA, n, .inl f))) (ht : tys[t0]? = some (cA, .int)) (hf : ∀ i, f i = 0) (j : Nat) {i x : Int32} (hi : i = nI j) (hj : j < n) (hn : n < 2 ^ 31) (hx : x = 0) (hd : decode cc pc = .ok (.iastore, 1)) (kk : ∀ f' : Nat → Int32, (∀ i, f' i = 0) → j_V p l e R s m args below meth c Q G nL A k9 q9 (ws.set q0 (a, .inl (cA, n, .inl f'))) (pc + 1) lo st) : j_V p l e R s m args below meth c Q G nL A k9 q9 ws pc lo (.int x :: .int i :: .ref a :: st) := j_iast X q0 t0 he ht j hi hj hn hd (kk _ (upd_0 hf j hx))
theorem j_isubA (X : j_X p s m args meth c cc nL own Ts rt G tys) {x y : Int32} (hd : decode cc pc = .ok (.isub, 1)) (kk : ∀ z : Int32, j_V p l e R s m args below meth c Q G nL A k9 q9 ws (pc + 1) lo (.int z :: st)) : j_V p l e R s m args below meth c Q G nL A k9 q9 ws pc lo (.int y :: .int x :: st) := j_isub X hd (kk _)
theorem j_iushrA (X : j_X p s m args meth c cc nL own Ts rt G tys) {x y : Int32} (hd : decode cc pc = .ok (.iushr, 1)) (kk : ∀ z : Int32, j_V p l e R s m args below meth c Q G nL A k9 q9 ws (pc + 1) lo (.int z :: st)) : j_V p l e R s m args below meth c Q G nL A k9 q9 ws pc lo (.int y :: .int x :: st) := j_iushr X rfl hd (kk _)
theorem j_iandA (X : j_X p s m args meth c cc nL own Ts rt G tys) {x y : Int32} (hd : decode cc pc = .ok (.iand, 1)) (kk : ∀ z : Int32, j_V p l e R s m args below meth c Q G nL A k9 q9 ws (pc + 1) lo (.int z :: st)) : j_V p l e R s m args below meth c Q G nL A k9 q9 ws pc lo (.int y :: .int x :: st) := j_iand X hd (kk _)
theorem j_imulN (X : j_X p s m args meth c cc nL own Ts rt G tys) (a b : Nat) (hd : decode cc pc = .ok (.imul, 1)) (kk : j_V p l e R s m args below meth c Q G nL A k9 q9 ws (pc + 1) lo (.int (nI (a * b)) :: st)) : j_V p l e R s m args below meth c Q G nL A k9 q9 ws pc lo (.int (nI b) :: .int (nI a) :: st) := j_imul X hd (by rw [pk_mul]; exact kk)
theorem j_newZ (X : j_X p s m args meth c cc nL own Ts rt G tys) (hA : ∀ q, s.heap.size ≤ q → A q) (t0 : Nat) {cA0 : ClassId} (ht : tys[t0]? = some (cA0, .boolean)) (harr : Cond.arrayClass .boolean ∈ Ts) {n : Int32} (N : Nat) (hn : ¬ n < 0) (hN : n.toNatClampNeg = N) (hb : N * componentBytes .boolean ≤ 536870912) (hk : k9 + 1 ≤ R.cells) (hq : q9 + N ≤ R.slots) (hd : decode cc pc = .ok (.newarray .boolean, 2)) (kk : ∀ x : Nat, j_V p l e R s m args below meth c Q G nL A (k9 + 1) (q9 + N) (ws ++ [(x, .inl (cA0, N, .inl (fun _ => 0)))]) (pc + 2) lo (.ref x :: st)) : j_V p l e R s m args below meth c Q G nL A k9 q9 ws pc lo (.int n :: st) := fun H locs ls hP hD hS h =>
  va_newa (atype := .boolean) (ty := .boolean) (a0 := (N, .inl (fun _ => 0))) X.1.1 X.1.2.1 (X.1.2.2.2.2 _ harr) rfl X.2.1 hP hD hS hA (fun _ => rfl) hn hN hb hk hq hd (fun x cA H1 hK1 hP1 hD1 hS1 => by
    have e1 : cA = cA0 := by
      have g1 := (hK1.2 tys.length (cA, .boolean) (by simp)).2
      have g2 := (X.2.1.2 t0 _ ht).2
      exact Option.some.inj (g1.symm.trans g2)
    subst e1
    exact kk x H1 locs ls hP1 hD1 hS1 h)
theorem j_copyI (X : j_X p s m args meth c cc nL own Ts rt G tys) {idx : Nat} (q0 q1 t0 : Nat) {a0 a1 N : Nat} {cA : ClassId} {f g : Nat → Int32} (he0 : ws[q0]? = some (a0, .inl (cA, N, .inl f))) (he1 : ws[q1]? = some (a1, .inl (cA, N, .inl g))) (ht : tys[t0]? = some (cA, .int)) {n : Int32} (hn : n = nI N) (hN : N < 2 ^ 31) (hlink : Cond.methodLink own idx arraycopyName ∈ Ts) (hnat : Cond.native arraycopyName ∈ Ts) (hstat : Cond.static arraycopyName ∈ Ts) (hini : Cond.initialized "java/lang/System" ∈ Ts) (hfr : 1 ≤ R.frames) (hlo : (rest.map fun v => v.category).sum + (nativeFrameWords "java/lang/System" "arraycopy" 5 + 11) ≤ R.locals) (hd : decode cc pc = .ok (.invokestatic idx, 3)) (kk : j_V p l e R s m args below meth c Q G nL A k9 q9 (ws.set q1 (a1, .inl (cA, N, .inl (va_cpy f g 0 0 N)))) (pc + 3) lo rest) : j_V p l e R s m args below meth c Q G nL A k9 q9 ws pc lo (.int n :: .int (nI 0) :: .ref a1 :: .int (nI 0) :: .ref a0 :: rest) := fun H locs ls hP hD hS h => by
  subst hn
  have e0 : (nI 0).toNatClampNeg = 0 := rfl
  refine va_copyi X.1.1 X.1.2.1 (X.1.2.2.1.trans h.1.symm) X.1.2.2.2.1 (X.1.2.2.2.2 _ hlink) (X.1.2.2.2.2 _ hnat) (X.1.2.2.2.2 _ hstat) (X.1.2.2.2.2 _ hini) X.2.1 hP hD hS q0 q1 t0 t0 he0 he1 ht ht rfl (by decide) (by decide) (nI_pos hN) (by rw [nI_clamp hN, e0]; omega) (by rw [nI_clamp hN, e0]; omega) (fun i _ => rfl) hfr hlo hd (fun H1 locs1 hP1 hD1 hS1 => ?_)
  rw [nI_clamp hN, e0] at hP1 hD1
  exact kk H1 locs1 ls hP1 hD1 hS1 h
theorem cpy_at (f g : Nat → Int32) (N j : Nat) (hj : j < N) : va_cpy f g 0 0 N j = f j := by
  unfold va_cpy
  simp [hj]
def jL (l : Launch) (G : va_G) (K : Nat × Nat × (Nat → Int32)) (tys : List (ClassId × FieldType)) (y : MethodName) (w9 : List Cond) (rm : Room) (wc : va_W) (av : List Value) (mk ms : Nat) {β : Type} (post : Int64 → β → Prop) (wf : β → va_W) : Prop :=
  ∀ sz : Nat, va_D (va_A wc sz) wc → Met l y w9 rm (va_Pc av (j_In G K tys wc sz)) (va_Ql post (j_B G (va_A wc sz) wf) (va_A wc sz)) mk ms (va_A wc sz)
theorem j_ofL {β : Type} {y : MethodName} {w9 w9' : List Cond} {rm : Room} {maxL mk ms : Nat} {av : List Value} {post : Int64 → β → Prop} {wc : va_W} {wf : β → va_W} (hy : plainName y.cls = true) (hw : w9 = Cond.code y cc maxL (some .long) :: w9') (hn : (lg_sl av).length ≤ maxL)
    (body : ∀ (p : Program) (e : Env) (s : State) (m : MethodId) (args : Array Value) (below : List Frame) (meth : Method) (c : Code), j_X p s m args meth c cc maxL y.cls w9 (some .long) G tys → meth.name = y.name → j_Z K (va_A wc s.heap.size) s s.heap → j_V p l e (headSpec w9 rm).room s m args below meth c (MQ below (va_Ql post (j_B G (va_A wc s.heap.size) wf) (va_A wc s.heap.size)) args s mk ms (va_A wc s.heap.size)) G maxL (va_A wc s.heap.size) 0 0 wc 0 (lv_args 0 av) []) : jL l G K tys y w9 rm wc av mk ms post wf := by
  intro sz hD
  refine Met.ofW (cc := cc) (maxL := maxL) (ret := (some .long)) hy hw ?_
  intro p e s m args below meth c s₁ B hml hv
  obtain ⟨rfl, hsz, hP, hK, hZ⟩ := hv
  subst hsz
  have hts := atoms_spec (ws := w9) B.pre
  have hown : s.vm.findClass y.cls = some m.cls := findClass_of_methodNamed B.named
  have hnm : meth.name = y.name := (name_of_methodNamed B.named B.method).1
  rw [lg_entry_eq]
  exact body p e s m _ below meth c ⟨⟨B.exec, B.bytes, hml, hown, hts⟩, hK, B.returns, B.notSynchronized⟩ hnm hZ s.heap [] _ hP hD va_S.rf (lv_entry av hn)
theorem j_lret (X : j_X p s m args meth c cc nL own Ts (some .long) G tys) {β : Type} {post : Int64 → β → Prop} {wf : β → va_W} (u : β) (hw : ws = wf u) {r : Int64} (hd : decode cc pc = .ok (.lreturn, 1)) (hp : post r u) : j_V p l e R s m args below meth c (MQ below (va_Ql post (j_B G A wf) A) args s k9 q9 A) G nL A k9 q9 ws pc lo [.long r] := fun H locs ls hP hD hS h => W.lret X.1.1 X.1.2.1 X.2.2.1 (fun t ht hW => ⟨⟨r, u, rfl, hp, by rw [ht, ← hw]; exact hP, hw ▸ hD⟩, hS.F ht⟩) hS.2.2 hd X.2.2.2
theorem j_callVL (X : j_X p s m args meth c cc nL own Ts rt G tys) (hA : ∀ q, s.heap.size ≤ q → A q) (hZ : j_Z K A s s.heap) {β : Type} {y : MethodName} {bytes : ByteArray} {maxL idx mk ms : Nat} {ret : Option FieldType} {w9 w9' : List Cond} {rm : Room} {post : Int64 → β → Prop} {wc wr : va_W} {wf : β → va_W} (isC isR : List Nat) (hC : isC.map (fun i => ws[i]?) = wc.map some) (hR9 : isR.map (fun i => ws[i]?) = wr.map some) (hnC : va_nd isC = true) (hnR : va_nd isR = true) (hdis : ∀ i ∈ isR, i ∉ isC) (As : List Value) {b ci : Nat} {fs : List Value} {C : String} {T : u_T} {N : Nat} (qb : Nat) (he : ws[qb]? = some (b, .inr (ci, fs))) (hcl : vwCl[ci]? = some (C, T, N)) (hM : jL l G K tys y w9 rm wc (.ref b :: As) mk ms post wf) (n : Nat) (hn : As.length = n) (hT : GoodIn Ts (wsV own idx C y w9)) (hw : w9 = Cond.code y bytes maxL ret :: w9') (hrm : rm.cells = mk ∧ rm.slots = ms) (hy : y.cls = C ∧ y.cls ≠ "java/lang/invoke/MethodHandle" ∧ y.cls ≠ "java/lang/invoke/VarHandle" ∧ (parseMethodDescriptor y.desc).map (fun d => d.parameters.length) = some n) (hR : rm.frames + 1 ≤ R.frames ∧ 8 + (maxL + 11) + rm.locals ≤ R.locals) {stk : List Value} (hst : stk = As.reverse ++ [.ref b]) (hW : (rest.map fun v => v.category).sum ≤ 8) (hf : k9 + mk ≤ R.cells ∧ q9 + ms ≤ R.slots) (hd : decode cc pc = .ok (.invokevirtual idx, 3)) (kk : ∀ (r : Int64) (u : β), post r u → j_V p l e R s m args below meth c Q G nL A (k9 + mk) (q9 + ms) (wr ++ wf u) (pc + 3) lo (.long r :: rest)) : j_V p l e R s m args below meth c Q G nL A k9 q9 ws pc lo (stk ++ rest) := fun H locs ls hP hD hS h => by
  subst hst
  have hFA : ∀ q, va_A wc H.size q → A q := va_free hD hS hA isC hC
  have hDc : va_D (va_A wc H.size) wc := (hD.sub isC hnC hC).self
  have hPc : va_P G vwCl wc H := hP.sub isC (by
    have e : isC.filterMap (fun i => ws[i]?) = (isC.map (fun i => ws[i]?)).filterMap id := by rw [List.filterMap_map]; rfl
    rw [e, hC, List.filterMap_map]
    exact List.filterMap_some)
  have start : ∀ U : State, U.heap = H → s.WarmedH U.vm → va_Pc (.ref b :: As) (j_In G K tys wc H.size) ((.ref b :: As) : List Value).toArray U := fun U hU hW9 => ⟨rfl, by rw [hU], by rw [hU]; exact hPc, va_K.moved hW9.alike X.2.1, by rw [hU]; exact hZ.at hS hFA hW9⟩
  skip
  refine va_calll (va_runV (As := As) (rest := rest) X.1 (hM H.size hDc) (cwV n X.1.2.2.2.2 hT hw hrm.1 hrm.2 hy hR) ⟨j_blind G K tys wc H.size _, va_recv X.2.1 hP hcl he, start⟩ rfl hn h.1 (by simp [F0]) (lv_room hW) hd hf) hS (fun q _ g => hFA q g) hFA (fun r u t H1 locs1 ht hvm hp9 hB hz1 hk1 hS1 => ?_)
  obtain ⟨hB1, hB2⟩ := hB
  rw [ht] at hB1
  obtain ⟨j1, j2⟩ := va_join hP hD isC isR hC hR9 hnR hdis hk1 hFA hB1 hB2
  exact kk r u hp9 H1 locs1 ls j1 j2 hS1 h
theorem p_callVL (X : j_X p s m args meth c cc nL own Ts rt G tys) (hA : ∀ q, s.heap.size ≤ q → A q) (hZ : j_Z K A s s.heap) {β : Type} {y : MethodName} {bytes : ByteArray} {maxL idx mk ms : Nat} {ret : Option FieldType} {w9 w9' : List Cond} {rm : Room} {post : Int64 → β → Prop} {wf : β → va_W} (wc wr : va_W) (wo : β → va_W) (hp : ws.Perm (wc ++ wr)) (ho : ∀ u : β, (wr ++ wf u).Perm (wo u)) (As : List Value) {b ci : Nat} {fs : List Value} {C : String} {T : u_T} {N : Nat} (qb : Nat) (he : (wc ++ wr)[qb]? = some (b, .inr (ci, fs))) (hcl : vwCl[ci]? = some (C, T, N)) (hM : jL l G K tys y w9 rm wc (.ref b :: As) mk ms post wf) (n : Nat) (hn : As.length = n) (hT : GoodIn Ts (wsV own idx C y w9)) (hw : w9 = Cond.code y bytes maxL ret :: w9') (hrm : rm.cells = mk ∧ rm.slots = ms) (hy : y.cls = C ∧ y.cls ≠ "java/lang/invoke/MethodHandle" ∧ y.cls ≠ "java/lang/invoke/VarHandle" ∧ (parseMethodDescriptor y.desc).map (fun d => d.parameters.length) = some n) (hR : rm.frames + 1 ≤ R.frames ∧ 8 + (maxL + 11) + rm.locals ≤ R.locals) {stk : List Value} (hst : stk = As.reverse ++ [.ref b]) (hW : (rest.map fun v => v.category).sum ≤ 8) (hf : k9 + mk ≤ R.cells ∧ q9 + ms ≤ R.slots) (hd : decode cc pc = .ok (.invokevirtual idx, 3)) (kk : ∀ (r : Int64) (u : β), post r u → j_V p l e R s m args below meth c Q G nL A (k9 + mk) (q9 + ms) (wo u) (pc + 3) lo (.long r :: rest)) : j_V p l e R s m args below meth c Q G nL A k9 q9 ws pc lo (stk ++ rest) :=
  j_perm hp (j_callVL X hA hZ (List.range wc.length) ((List.range wr.length).map (fun i => wc.length + i)) (is_C wc wr) (is_R wc wr) (nd_of _ List.nodup_range) (nd_of _ (nd_add _ List.nodup_range)) (is_dis _ _) As qb he hcl hM n hn hT hw hrm hy hR hst hW hf hd (fun r u hp9 => j_perm (ho u) (kk r u hp9)))
def jD (l : Launch) (G : va_G) (K : Nat × Nat × (Nat → Int32)) (tys : List (ClassId × FieldType)) (y : MethodName) (w9 : List Cond) (rm : Room) (wc : va_W) (av : List Value) (mk ms : Nat) {β : Type} (post : UInt64 → β → Prop) (wf : β → va_W) : Prop :=
  ∀ sz : Nat, va_D (va_A wc sz) wc → Met l y w9 rm (va_Pc av (j_In G K tys wc sz)) (va_Qd post (j_B G (va_A wc sz) wf) (va_A wc sz)) mk ms (va_A wc sz)
theorem j_ofD {β : Type} {y : MethodName} {w9 w9' : List Cond} {rm : Room} {maxL mk ms : Nat} {av : List Value} {post : UInt64 → β → Prop} {wc : va_W} {wf : β → va_W} (hy : plainName y.cls = true) (hw : w9 = Cond.code y cc maxL (some .double) :: w9') (hn : (lg_sl av).length ≤ maxL)
    (body : ∀ (p : Program) (e : Env) (s : State) (m : MethodId) (args : Array Value) (below : List Frame) (meth : Method) (c : Code), j_X p s m args meth c cc maxL y.cls w9 (some .double) G tys → meth.name = y.name → j_Z K (va_A wc s.heap.size) s s.heap → j_V p l e (headSpec w9 rm).room s m args below meth c (MQ below (va_Qd post (j_B G (va_A wc s.heap.size) wf) (va_A wc s.heap.size)) args s mk ms (va_A wc s.heap.size)) G maxL (va_A wc s.heap.size) 0 0 wc 0 (lv_args 0 av) []) : jD l G K tys y w9 rm wc av mk ms post wf := by
  intro sz hD
  refine Met.ofW (cc := cc) (maxL := maxL) (ret := (some .double)) hy hw ?_
  intro p e s m args below meth c s₁ B hml hv
  obtain ⟨rfl, hsz, hP, hK, hZ⟩ := hv
  subst hsz
  have hts := atoms_spec (ws := w9) B.pre
  have hown : s.vm.findClass y.cls = some m.cls := findClass_of_methodNamed B.named
  have hnm : meth.name = y.name := (name_of_methodNamed B.named B.method).1
  rw [lg_entry_eq]
  exact body p e s m _ below meth c ⟨⟨B.exec, B.bytes, hml, hown, hts⟩, hK, B.returns, B.notSynchronized⟩ hnm hZ s.heap [] _ hP hD va_S.rf (lv_entry av hn)
theorem j_dret (X : j_X p s m args meth c cc nL own Ts (some .double) G tys) {β : Type} {post : UInt64 → β → Prop} {wf : β → va_W} (u : β) (hw : ws = wf u) {r : UInt64} (hd : decode cc pc = .ok (.dreturn, 1)) (hp : post r u) : j_V p l e R s m args below meth c (MQ below (va_Qd post (j_B G A wf) A) args s k9 q9 A) G nL A k9 q9 ws pc lo [.double r] := fun H locs ls hP hD hS h => W.dret X.1.1 X.1.2.1 X.2.2.1 (fun t ht hW => ⟨⟨r, u, rfl, hp, by rw [ht, ← hw]; exact hP, hw ▸ hD⟩, hS.F ht⟩) hS.2.2 hd X.2.2.2
theorem j_callVD (X : j_X p s m args meth c cc nL own Ts rt G tys) (hA : ∀ q, s.heap.size ≤ q → A q) (hZ : j_Z K A s s.heap) {β : Type} {y : MethodName} {bytes : ByteArray} {maxL idx mk ms : Nat} {ret : Option FieldType} {w9 w9' : List Cond} {rm : Room} {post : UInt64 → β → Prop} {wc wr : va_W} {wf : β → va_W} (isC isR : List Nat) (hC : isC.map (fun i => ws[i]?) = wc.map some) (hR9 : isR.map (fun i => ws[i]?) = wr.map some) (hnC : va_nd isC = true) (hnR : va_nd isR = true) (hdis : ∀ i ∈ isR, i ∉ isC) (As : List Value) {b ci : Nat} {fs : List Value} {C : String} {T : u_T} {N : Nat} (qb : Nat) (he : ws[qb]? = some (b, .inr (ci, fs))) (hcl : vwCl[ci]? = some (C, T, N)) (hM : jD l G K tys y w9 rm wc (.ref b :: As) mk ms post wf) (n : Nat) (hn : As.length = n) (hT : GoodIn Ts (wsV own idx C y w9)) (hw : w9 = Cond.code y bytes maxL ret :: w9') (hrm : rm.cells = mk ∧ rm.slots = ms) (hy : y.cls = C ∧ y.cls ≠ "java/lang/invoke/MethodHandle" ∧ y.cls ≠ "java/lang/invoke/VarHandle" ∧ (parseMethodDescriptor y.desc).map (fun d => d.parameters.length) = some n) (hR : rm.frames + 1 ≤ R.frames ∧ 8 + (maxL + 11) + rm.locals ≤ R.locals) {stk : List Value} (hst : stk = As.reverse ++ [.ref b]) (hW : (rest.map fun v => v.category).sum ≤ 8) (hf : k9 + mk ≤ R.cells ∧ q9 + ms ≤ R.slots) (hd : decode cc pc = .ok (.invokevirtual idx, 3)) (kk : ∀ (r : UInt64) (u : β), post r u → j_V p l e R s m args below meth c Q G nL A (k9 + mk) (q9 + ms) (wr ++ wf u) (pc + 3) lo (.double r :: rest)) : j_V p l e R s m args below meth c Q G nL A k9 q9 ws pc lo (stk ++ rest) := fun H locs ls hP hD hS h => by
  subst hst
  have hFA : ∀ q, va_A wc H.size q → A q := va_free hD hS hA isC hC
  have hDc : va_D (va_A wc H.size) wc := (hD.sub isC hnC hC).self
  have hPc : va_P G vwCl wc H := hP.sub isC (by
    have e : isC.filterMap (fun i => ws[i]?) = (isC.map (fun i => ws[i]?)).filterMap id := by rw [List.filterMap_map]; rfl
    rw [e, hC, List.filterMap_map]
    exact List.filterMap_some)
  have start : ∀ U : State, U.heap = H → s.WarmedH U.vm → va_Pc (.ref b :: As) (j_In G K tys wc H.size) ((.ref b :: As) : List Value).toArray U := fun U hU hW9 => ⟨rfl, by rw [hU], by rw [hU]; exact hPc, va_K.moved hW9.alike X.2.1, by rw [hU]; exact hZ.at hS hFA hW9⟩
  skip
  refine va_calld (va_runV (As := As) (rest := rest) X.1 (hM H.size hDc) (cwV n X.1.2.2.2.2 hT hw hrm.1 hrm.2 hy hR) ⟨j_blind G K tys wc H.size _, va_recv X.2.1 hP hcl he, start⟩ rfl hn h.1 (by simp [F0]) (lv_room hW) hd hf) hS (fun q _ g => hFA q g) hFA (fun r u t H1 locs1 ht hvm hp9 hB hz1 hk1 hS1 => ?_)
  obtain ⟨hB1, hB2⟩ := hB
  rw [ht] at hB1
  obtain ⟨j1, j2⟩ := va_join hP hD isC isR hC hR9 hnR hdis hk1 hFA hB1 hB2
  exact kk r u hp9 H1 locs1 ls j1 j2 hS1 h
theorem p_callVD (X : j_X p s m args meth c cc nL own Ts rt G tys) (hA : ∀ q, s.heap.size ≤ q → A q) (hZ : j_Z K A s s.heap) {β : Type} {y : MethodName} {bytes : ByteArray} {maxL idx mk ms : Nat} {ret : Option FieldType} {w9 w9' : List Cond} {rm : Room} {post : UInt64 → β → Prop} {wf : β → va_W} (wc wr : va_W) (wo : β → va_W) (hp : ws.Perm (wc ++ wr)) (ho : ∀ u : β, (wr ++ wf u).Perm (wo u)) (As : List Value) {b ci : Nat} {fs : List Value} {C : String} {T : u_T} {N : Nat} (qb : Nat) (he : (wc ++ wr)[qb]? = some (b, .inr (ci, fs))) (hcl : vwCl[ci]? = some (C, T, N)) (hM : jD l G K tys y w9 rm wc (.ref b :: As) mk ms post wf) (n : Nat) (hn : As.length = n) (hT : GoodIn Ts (wsV own idx C y w9)) (hw : w9 = Cond.code y bytes maxL ret :: w9') (hrm : rm.cells = mk ∧ rm.slots = ms) (hy : y.cls = C ∧ y.cls ≠ "java/lang/invoke/MethodHandle" ∧ y.cls ≠ "java/lang/invoke/VarHandle" ∧ (parseMethodDescriptor y.desc).map (fun d => d.parameters.length) = some n) (hR : rm.frames + 1 ≤ R.frames ∧ 8 + (maxL + 11) + rm.locals ≤ R.locals) {stk : List Value} (hst : stk = As.reverse ++ [.ref b]) (hW : (rest.map fun v => v.category).sum ≤ 8) (hf : k9 + mk ≤ R.cells ∧ q9 + ms ≤ R.slots) (hd : decode cc pc = .ok (.invokevirtual idx, 3)) (kk : ∀ (r : UInt64) (u : β), post r u → j_V p l e R s m args below meth c Q G nL A (k9 + mk) (q9 + ms) (wo u) (pc + 3) lo (.double r :: rest)) : j_V p l e R s m args below meth c Q G nL A k9 q9 ws pc lo (stk ++ rest) :=
  j_perm hp (j_callVD X hA hZ (List.range wc.length) ((List.range wr.length).map (fun i => wc.length + i)) (is_C wc wr) (is_R wc wr) (nd_of _ List.nodup_range) (nd_of _ (nd_add _ List.nodup_range)) (is_dis _ _) As qb he hcl hM n hn hT hw hrm hy hR hst hW hf hd (fun r u hp9 => j_perm (ho u) (kk r u hp9)))
theorem j_dconst0 (X : j_X p s m args meth c cc nL own Ts rt G tys) (hd : decode cc pc = .ok (.dconst 0, 1)) (kk : j_V p l e R s m args below meth c Q G nL A k9 q9 ws (pc + 1) lo (.double FP.dconst0 :: st)) : j_V p l e R s m args below meth c Q G nL A k9 q9 ws pc lo st := fun H locs ls hP hD hS h => lv_dconst0 X.1.1 X.1.2.1 hd (kk H locs ls hP hD hS h)
theorem j_ldc2 (X : j_X p s m args meth c cc nL own Ts rt G tys) {idx : Nat} {v : Int64} (hconst : Jvm.Cond.constantLong own idx v ∈ Ts) (hd : decode cc pc = .ok (.ldc2_w idx, 3)) (kk : j_V p l e R s m args below meth c Q G nL A k9 q9 ws (pc + 3) lo (.long v :: st)) : j_V p l e R s m args below meth c Q G nL A k9 q9 ws pc lo st := fun H locs ls hP hD hS h => lv_ldc2 X.1.1 X.1.2.1 X.1.2.2.2.1 (X.1.2.2.2.2 _ hconst) hd (kk H locs ls hP hD hS h)
theorem xn_0 : Cond.fieldLinkNest RX7 171 RX6 (TX6 0).2.1 (TX6 0).2.2.1 RX7 ∈ x_nest := by decide +kernel
theorem xn_1 : Cond.fieldLinkNest RX7 174 RX6 (TX6 1).2.1 (TX6 1).2.2.1 RX7 ∈ x_nest := by decide +kernel
theorem xn_2 : Cond.fieldLinkNest RX7 45 RX6 (TX6 2).2.1 (TX6 2).2.2.1 RX7 ∈ x_nest := by decide +kernel
theorem xn_3 : Cond.fieldLinkNest RX7 98 RX6 (TX6 3).2.1 (TX6 3).2.2.1 RX7 ∈ x_nest := by decide +kernel
theorem xn_4 : Cond.fieldLinkNest RX7 107 RX6 (TX6 4).2.1 (TX6 4).2.2.1 RX7 ∈ x_nest := by decide +kernel
end ZMM
