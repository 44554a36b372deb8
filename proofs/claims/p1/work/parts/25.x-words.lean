section ZX0
def j_ty (cI cZ cT cB : ClassId) : List (ClassId × FieldType) := [(cI, .int), (cZ, .boolean), (cT, .object "SapperWar$Team"), (cB, .long)]
def x_sync : Cond := .codeSync Bundle.tFill LibCode.Throwable.Fill.code 1 (some (.object Bundle.tN))
theorem x_sync_setVm {s : State} {vm' : Vm} {args : Array Value} (h : s.vm.Alike vm') : x_sync.before args (s.setVm vm') = x_sync.before args s := by
  simp only [x_sync, Cond.before, Cond.holds, Cond.value, State.methodNamed?_setVm h, State.vm_setVm]
  cases s.methodNamed? Bundle.tFill with
  | none => rfl
  | some m => simp only [Option.bind_some, h.method?]
theorem x_sync_warm {s U : State} (hW : s.WarmedH U.vm) (h : va_Nw x_sync s) : va_Nw x_sync U := va_tabs rfl (rfl : (s.setVm U.vm).vm = U.vm) (by
  have h9 : x_sync.before #[] s = true := h
  rw [x_sync_setVm hW.alike]; exact h9)
/-- is it a cell -/
def pin (x y : Int32) : Prop := (¬ x < 0 ∧ x < 12) ∧ (¬ y < 0 ∧ y < 12)
theorem pin_nat {x y : Int32} (h : pin x y) : ∃ a b : Nat, a < 12 ∧ b < 12 ∧ x = nI a ∧ y = nI b := by
  have one : ∀ z : Int32, ¬ z < 0 → z < 12 → ∃ a : Nat, a < 12 ∧ z = nI a := fun z h1 h2 => by
    obtain ⟨j, hj, e⟩ := nI_of2 (M := nI 12) (n := 12) (nI_toInt (by decide)) h1 (Int32.le_of_lt h2)
    refine ⟨j, ?_, e⟩
    rw [e] at h2
    exact (nI_ltI (a := j) (b := 12) (by omega) (by decide)).1 h2
  obtain ⟨a, ha, ea⟩ := one x h.1.1 h.1.2
  obtain ⟨b, hb, eb⟩ := one y h.2.1 h.2.2
  exact ⟨a, b, ha, hb, ea, eb⟩
theorem pin_of {a b : Nat} (ha : a < 12) (hb : b < 12) : pin (nI a) (nI b) := ⟨⟨nI_pos (by omega), (nI_ltI (b := 12) (by omega) (by decide)).2 ha⟩, nI_pos (by omega), (nI_ltI (b := 12) (by omega) (by decide)).2 hb⟩
noncomputable def s_pin (x y : Int32) : Int32 := @ite _ (pin x y) (Classical.propDecidable _) 1 0
theorem s_pin_1 {x y : Int32} (h : pin x y) : s_pin x y = 1 := if_pos h
theorem s_pin_0 {x y : Int32} (h : ¬ pin x y) : s_pin x y = 0 := if_neg h
theorem pin_1 {x y : Int32} (h : ¬ s_pin x y = 0) : pin x y := Classical.byContradiction fun q => h (s_pin_0 q)
theorem eq_zero {q : Int32} (h1 : ¬ q < 0) (h2 : ¬ 0 < q) : q = 0 := Int32.le_antisymm (Int32.not_lt.1 h2) (Int32.not_lt.1 h1)
end ZX0
