section ZL6
theorem us_X0 : ∀ w ∈ u_ws RX0 TX0 12, w ∈ lw_tbl := by decide +kernel
theorem ui_X0 : Cond.instantiable RX0 12 ∈ lw_tbl := by decide +kernel
theorem us_X1 : ∀ w ∈ u_ws RX1 TX1 4, w ∈ lw_tbl := by decide +kernel
theorem ui_X1 : Cond.instantiable RX1 4 ∈ lw_tbl := by decide +kernel
theorem us_X2 : ∀ w ∈ u_ws RX2 TX2 2, w ∈ lw_tbl := by decide +kernel
theorem ui_X2 : Cond.instantiable RX2 2 ∈ lw_tbl := by decide +kernel
theorem us_X3 : ∀ w ∈ u_ws RX3 TX3 16, w ∈ lw_tbl := by decide +kernel
theorem ui_X3 : Cond.instantiable RX3 16 ∈ lw_tbl := by decide +kernel
theorem us_X4 : ∀ w ∈ u_ws RX4 TX4 2, w ∈ lw_tbl := by decide +kernel
theorem ui_X4 : Cond.instantiable RX4 2 ∈ lw_tbl := by decide +kernel
theorem us_X5 : ∀ w ∈ u_ws RX5 TX5 6, w ∈ lw_tbl := by decide +kernel
theorem ui_X5 : Cond.instantiable RX5 6 ∈ lw_tbl := by decide +kernel
theorem us_X6 : ∀ w ∈ u_ws RX6 TX6 5, w ∈ lw_tbl := by decide +kernel
theorem ui_X6 : Cond.instantiable RX6 5 ∈ lw_tbl := by decide +kernel
theorem us_X7 : ∀ w ∈ u_ws RX7 TX7 14, w ∈ lw_tbl := by decide +kernel
theorem ui_X7 : Cond.instantiable RX7 14 ∈ lw_tbl := by decide +kernel
theorem uw_N1 : Cond.methodLinkNest RX3 71 yX5_distance RX5 ∈ lw_tbl := by decide +kernel
theorem uw_N2 : Cond.methodLinkNest RX1 105 yX5_neighbour RX5 ∈ lw_tbl := by decide +kernel
theorem uw_N3 : Cond.methodLinkNest RX0 78 yX5_neighbour RX5 ∈ lw_tbl := by decide +kernel
theorem uw_N4 : Cond.methodLinkNest RX1 177 yX5_distance RX5 ∈ lw_tbl := by decide +kernel
theorem uw_N5 : Cond.methodLinkNest RX4 27 yX5_neighbour RX5 ∈ lw_tbl := by decide +kernel
theorem uw_N6 : Cond.fieldLinkNest RX1 116 "SapperWar" "NOISES" "[I" RX5 ∈ lw_tbl := by decide +kernel
theorem uw_Y1 : Cond.methodLinkNest RX5 9 yX2_init RX5 ∈ lw_tbl := by decide +kernel
theorem uw_Y2 : Cond.methodLinkNest RX1 31 yX3_init RX5 ∈ lw_tbl := by decide +kernel
theorem uw_Y3 : Cond.methodLinkNest RX5 36 yX4_init RX5 ∈ lw_tbl := by decide +kernel
theorem uw_Y4 : Cond.arrayOver (.object "SapperWar$Team") ∈ lw_tbl := by decide +kernel
theorem uw_A1 : Cond.arrayClass .int ∈ lw_tbl := by decide +kernel
theorem uw_A2 : Cond.arrayClass .boolean ∈ lw_tbl := by decide +kernel
theorem uw_A3 : Cond.arrayClass .long ∈ lw_tbl := by decide +kernel
theorem uw_L1 : Cond.laysStatic "SapperWar" "NOISES" "[I" ∈ lw_tbl := by decide +kernel
theorem uw_I1 : Cond.initialized "SapperWar" ∈ lw_tbl := by decide +kernel
theorem uw_M0 : Cond.methodLinkNest RX7 37 yX6_init RX7 ∈ lw_tbl := by decide +kernel
theorem uw_M1 : Cond.fieldLinkNest RX7 171 RX6 "hour" "I" RX7 ∈ lw_tbl := by decide +kernel
theorem uw_M2 : Cond.fieldLinkNest RX7 174 RX6 "fell" "I" RX7 ∈ lw_tbl := by decide +kernel
theorem uw_M3 : Cond.fieldLinkNest RX7 45 RX6 "cells" "[I" RX7 ∈ lw_tbl := by decide +kernel
theorem uw_M4 : Cond.fieldLinkNest RX7 98 RX6 "team" "[I" RX7 ∈ lw_tbl := by decide +kernel
theorem uw_M5 : Cond.fieldLinkNest RX7 107 RX6 "orders" "[I" RX7 ∈ lw_tbl := by decide +kernel
theorem uw_C0 : Cond.castable "java/lang/IllegalStateException" "java/lang/IllegalStateException" ∈ lw_tbl := by decide +kernel
theorem uw_C1 : Cond.castable "java/lang/IllegalArgumentException" "java/lang/IllegalArgumentException" ∈ lw_tbl := by decide +kernel
theorem uw_C2 : Cond.castable "java/lang/IndexOutOfBoundsException" "java/lang/IndexOutOfBoundsException" ∈ lw_tbl := by decide +kernel
theorem uw_D0 : Cond.declares (Bundle.initS "java/lang/RuntimeException") ∈ lw_tbl := by decide +kernel
theorem uw_D1 : Cond.declares (Bundle.initS "java/lang/Exception") ∈ lw_tbl := by decide +kernel
theorem uw_D2 : Cond.declares (Bundle.initS Bundle.tN) ∈ lw_tbl := by decide +kernel
theorem uw_S0 : x_sync ∈ lw_tbl := by decide +kernel
theorem uw_T1 : Cond.laysStatic Bundle.tN "UNASSIGNED_STACK" Bundle.steD ∈ lw_tbl := by decide +kernel
theorem uw_T2 : Cond.laysStatic Bundle.tN "SUPPRESSED_SENTINEL" Bundle.listD ∈ lw_tbl := by decide +kernel
theorem uw_T3 : Cond.initialized Bundle.tN ∈ lw_tbl := by decide +kernel
theorem uf_f1 : Cond.arrayOf (Term.static "SapperWar" "NOISES" "[I") .int ∈ flatC (Jvm.Cond.and given_1 narrow_1) := by decide +kernel
theorem uf_f2 : Cond.eq (.length (Term.static "SapperWar" "NOISES" "[I")) (.int 7) ∈ flatC (Jvm.Cond.and given_1 narrow_1) := by decide +kernel
theorem uf_u1 : Cond.isRef (.static Bundle.tN "UNASSIGNED_STACK" Bundle.steD) ∈ flatC (Jvm.Cond.and given_1 narrow_1) := by decide +kernel
theorem uf_u2 : Cond.isRef (.static Bundle.tN "SUPPRESSED_SENTINEL" Bundle.listD) ∈ flatC (Jvm.Cond.and given_1 narrow_1) := by decide +kernel
theorem uf_e0 : Cond.eq (.elem (Term.static "SapperWar" "NOISES" "[I") (.int 0)) (.int 0) ∈ flatC (Jvm.Cond.and given_1 narrow_1) := by decide +kernel
theorem uf_e1 : Cond.eq (.elem (Term.static "SapperWar" "NOISES" "[I") (.int 1)) (.int 3) ∈ flatC (Jvm.Cond.and given_1 narrow_1) := by decide +kernel
theorem uf_e2 : Cond.eq (.elem (Term.static "SapperWar" "NOISES" "[I") (.int 2)) (.int 1) ∈ flatC (Jvm.Cond.and given_1 narrow_1) := by decide +kernel
theorem uf_e3 : Cond.eq (.elem (Term.static "SapperWar" "NOISES" "[I") (.int 3)) (.int 2) ∈ flatC (Jvm.Cond.and given_1 narrow_1) := by decide +kernel
theorem uf_e4 : Cond.eq (.elem (Term.static "SapperWar" "NOISES" "[I") (.int 4)) (.int 0) ∈ flatC (Jvm.Cond.and given_1 narrow_1) := by decide +kernel
theorem uf_e5 : Cond.eq (.elem (Term.static "SapperWar" "NOISES" "[I") (.int 5)) (.int 1) ∈ flatC (Jvm.Cond.and given_1 narrow_1) := by decide +kernel
theorem uf_e6 : Cond.eq (.elem (Term.static "SapperWar" "NOISES" "[I") (.int 6)) (.int 4) ∈ flatC (Jvm.Cond.and given_1 narrow_1) := by decide +kernel
theorem ux_str : ∀ t ∈ x_strs, Cond.stringRef RX5 t.1 t.2 ∈ lw_tbl := by decide +kernel
theorem ux_exa : ∀ t ∈ x_strs, Cond.exactly (Term.string RX5 t.1) "java/lang/String" ∈ flatC (Jvm.Cond.and given_1 narrow_1) := by decide +kernel
theorem ux_no : ∀ t ∈ x_no, Cond.not (.castable t.1 t.2) ∈ flatC (Jvm.Cond.and given_1 narrow_1) := by decide +kernel
theorem arr_of {ty : FieldType} {args : Array Value} {s : State} (hp : (match ty with | .object _ => False | _ => True)) (h : (Cond.arrayClass ty).before args s = true) : ∃ cA, ArrOfT s cA ty ∧ va_RA s cA ty := by
  obtain ⟨cA, k, comp, h1, h2, h3⟩ := Cond.arrayClass_spec h
  refine ⟨cA, fun n z => ⟨(fun k h => by cases h), k, h2, comp, h3⟩, ?_⟩
  cases ty <;> first | exact h1 | exact hp.elim
theorem arr_ofO {C : String} {args : Array Value} {s : State} (h : (Cond.arrayOver (.object C)).before args s = true) : ∃ cA, ArrOfT s cA (.object C) ∧ va_RA s cA (.object C) := by
  obtain ⟨comp, cA, k, h1, -, h2, h3, h4⟩ := Cond.arrayOver_spec h
  exact ⟨cA, fun n z => ⟨(fun k h => by cases h), k, h2, comp, h3⟩, k, comp, h2, h3, h1, h4⟩
set_option maxRecDepth 100000 in
set_option maxHeartbeats 4000000 in
theorem whole_start {p : Program} {e : Env} {s : State} {m : MethodId} {below : List Frame} {meth : Method} {c : Code} (l : Launch) (hflags : l.flags = flags0) {b L : Nat} {xs : Nat → Int32} (hL : L ≤ 6) (C0 : lw_At p s m meth c b L xs) : W p l e room_1 s m #[Value.ref b] below meth c s.heap [] 0 0 (lw_Z below #[Value.ref b] s) (entryFrame m ([Value.ref b] : List Value).toArray 9) := by
  obtain ⟨hx, hb, hr, hml, hown, hts, hX, hbl, hlocks, hgv⟩ := id C0
  have hs := flat_of_before _ hgv
  have hA : ∀ q, s.heap.size ≤ q → va_A ([] : va_W) s.heap.size q := hA_law
  have hA2 : ∀ q, va_A ([] : va_W) s.heap.size q → s.heap.size ≤ q := hA2_law
  have hAn : ∀ a : Nat, a < s.heap.size → ¬ va_A ([] : va_W) s.heap.size a := fun a h q => absurd (hA2 a q) (Nat.not_le.mpr h)
  have hAs : ∀ a : Nat, a < s.heap.size → ¬ s.heap.size ≤ a := fun a h => Nat.not_le.mpr h
  obtain ⟨c0, i0, k0⟩ := u_known (C := RX0) (T := TX0) (N := 12) (n := 12) hts us_X0 (hts _ ui_X0)
  obtain ⟨c1, i1, k1⟩ := u_known (C := RX1) (T := TX1) (N := 4) (n := 4) hts us_X1 (hts _ ui_X1)
  obtain ⟨c2, i2, k2⟩ := u_known (C := RX2) (T := TX2) (N := 2) (n := 2) hts us_X2 (hts _ ui_X2)
  obtain ⟨c3, i3, k3⟩ := u_known (C := RX3) (T := TX3) (N := 16) (n := 16) hts us_X3 (hts _ ui_X3)
  obtain ⟨c4, i4, k4⟩ := u_known (C := RX4) (T := TX4) (N := 2) (n := 2) hts us_X4 (hts _ ui_X4)
  obtain ⟨c5, i5, k5⟩ := u_known (C := RX5) (T := TX5) (N := 6) (n := 6) hts us_X5 (hts _ ui_X5)
  obtain ⟨c6, i6, k6⟩ := u_known (C := RX6) (T := TX6) (N := 5) (n := 5) hts us_X6 (hts _ ui_X6)
  obtain ⟨c7, i7, k7⟩ := u_known (C := RX7) (T := TX7) (N := 14) (n := 14) hts us_X7 (hts _ ui_X7)
  obtain ⟨dC, dI, hKc⟩ : ∃ (dC : Nat → ClassId) (dI : Nat → Nat → Nat), ∀ (k : Nat) (q : vw_C), vwCl[k]? = some q → u_Kn s q.1 q.2.1 q.2.2 (dC k) (dI k) := by
    refine ⟨fun k => if k = 0 then c0 else if k = 1 then c1 else if k = 2 then c2 else if k = 3 then c3 else if k = 4 then c4 else if k = 5 then c5 else if k = 6 then c6 else c7, fun k => if k = 0 then i0 else if k = 1 then i1 else if k = 2 then i2 else if k = 3 then i3 else if k = 4 then i4 else if k = 5 then i5 else if k = 6 then i6 else i7, ?_⟩
    intro k q hq
    match k, hq with
    | 0, hq => cases hq; exact k0
    | 1, hq => cases hq; exact k1
    | 2, hq => cases hq; exact k2
    | 3, hq => cases hq; exact k3
    | 4, hq => cases hq; exact k4
    | 5, hq => cases hq; exact k5
    | 6, hq => cases hq; exact k6
    | 7, hq => cases hq; exact k7
    | k + 8, hq => simp [vwCl] at hq
  obtain ⟨cI, aI⟩ := arr_of (ty := .int) trivial (hts _ uw_A1)
  obtain ⟨cZ, aZ⟩ := arr_of (ty := .boolean) trivial (hts _ uw_A2)
  obtain ⟨cB, aB⟩ := arr_of (ty := .long) trivial (hts _ uw_A3)
  obtain ⟨cT, aT⟩ := arr_ofO (C := "SapperWar$Team") (hts _ uw_Y4)
  have hK : va_K (dC, dI) vwCl (j_ty cI cZ cT cB) s := ⟨hKc, fun k q hq => by
    match k, hq with
    | 0, hq => cases hq; exact aI
    | 1, hq => cases hq; exact aZ
    | 2, hq => cases hq; exact aT
    | 3, hq => cases hq; exact aB
    | k + 4, hq => simp [j_ty] at hq⟩
  have hN : z_N s := by
    intro w hw
    simp only [z_nest, List.mem_cons, List.not_mem_nil, or_false] at hw
    rcases hw with rfl | rfl | rfl | rfl | rfl | rfl
    · exact va_Nw.of rfl (hts _ uw_N1)
    · exact va_Nw.of rfl (hts _ uw_N2)
    · exact va_Nw.of rfl (hts _ uw_N3)
    · exact va_Nw.of rfl (hts _ uw_N4)
    · exact va_Nw.of rfl (hts _ uw_N5)
    · exact va_Nw.of rfl (hts _ uw_N6)
  have hY : y_N s := ⟨va_Nw.of rfl (hts _ uw_Y1), va_Nw.of rfl (hts _ uw_Y2), va_Nw.of rfl (hts _ uw_Y3), va_AO.of (hts _ uw_Y4)⟩
  have hZz : z_Z s.heap.size s s.heap := by
    obtain ⟨t, ht, hT⟩ := va_Tof (N := 7) (f := fun j => .int (z_noise j)) (A := fun q => s.heap.size ≤ q) (by decide) (hs _ uf_f1) (va_eqt (hs _ uf_f2)) (fun j hj => by
      rcases (show j = 0 ∨ j = 1 ∨ j = 2 ∨ j = 3 ∨ j = 4 ∨ j = 5 ∨ j = 6 by omega) with rfl | rfl | rfl | rfl | rfl | rfl | rfl
      · exact va_eqt (hs _ uf_e0)
      · exact va_eqt (hs _ uf_e1)
      · exact va_eqt (hs _ uf_e2)
      · exact va_eqt (hs _ uf_e3)
      · exact va_eqt (hs _ uf_e4)
      · exact va_eqt (hs _ uf_e5)
      · exact va_eqt (hs _ uf_e6)) hAs
    exact ⟨t, va_Zof (hts _ uw_L1) (hts _ uw_I1) ht hAs, hT⟩
  have hX9 : x_N s := by
    refine ⟨fun w hw => ?_, ⟨fun C hC => ?_, fun y hy => ?_⟩, ⟨va_Nw.of rfl (hts _ uw_S0), fun t ht => va_Nc.of (hs _ (ux_no t ht))⟩, fun t ht => ?_⟩
    · simp only [x_nest, List.mem_cons, List.not_mem_nil, or_false] at hw
      rcases hw with rfl | rfl | rfl | rfl | rfl | rfl
      · exact va_Nw.of rfl (hts _ uw_M0)
      · exact va_Nw.of rfl (hts _ uw_M1)
      · exact va_Nw.of rfl (hts _ uw_M2)
      · exact va_Nw.of rfl (hts _ uw_M3)
      · exact va_Nw.of rfl (hts _ uw_M4)
      · exact va_Nw.of rfl (hts _ uw_M5)
    · simp only [x_cast, List.mem_cons, List.not_mem_nil, or_false] at hC
      rcases hC with rfl | rfl | rfl
      · exact va_Nw.of rfl (hts _ uw_C0)
      · exact va_Nw.of rfl (hts _ uw_C1)
      · exact va_Nw.of rfl (hts _ uw_C2)
    · simp only [x_decl, List.mem_cons, List.not_mem_nil, or_false] at hy
      rcases hy with rfl | rfl | rfl
      · exact va_Nw.of rfl (hts _ uw_D0)
      · exact va_Nw.of rfl (hts _ uw_D1)
      · exact va_Nw.of rfl (hts _ uw_D2)
    · obtain ⟨a, -, -, -, ha, -⟩ := Cond.exactly_spec (show (Cond.exactly (Term.string RX5 t.1) "java/lang/String").holds #[Value.ref b] s none s [] = true from hs _ (ux_exa t ht))
      exact ⟨a, vk_R.of (hts _ (ux_str t ht)) ha⟩
  have hu1 := vx_Zqof (A := fun q => s.heap.size ≤ q) (hts _ uw_T1) (hts _ uw_T3) (hs _ uf_u1) hAs
  have hu2 := vx_Zqof (A := fun q => s.heap.size ≤ q) (hts _ uw_T2) (hts _ uw_T3) (hs _ uf_u2) hAs
  have hZ : j_Z (b, L, xs) (va_A ([] : va_W) s.heap.size) s s.heap := ⟨⟨hX, hbl, hAn b hbl⟩, hN, hY, hX9, s.heap.size, hA2, hZz, hu1, hu2⟩
  have hts3 : ∀ w ∈ wsL_law, w.before #[Value.ref b] s = true := fun w hw => hts w (wsL_law_in w hw)
  have X : j_X p s m #[Value.ref b] meth c code 9 RL wsL_law ret (dC, dI) (j_ty cI cZ cT cB) := ⟨⟨hx, hb, hml, hown, hts3⟩, hK, hr, hlocks⟩
  have hl := lv_entry ([.ref b]) (n := 9) (Nat.le_of_ble_eq_true rfl)
  have hl9 : l.stackTraces = false := by unfold Launch.stackTraces; rw [hflags]; decide
  rw [lg_entry_eq]
  exact law_all (K := (b, L, xs)) (l := l) (e := e) (below := below) hl9 X hZ hL s.heap [] _ (fun k q h => by simp at h) ⟨fun i j p q h => by simp at h, fun k q h => by simp at h⟩ va_S.rf hl
end ZL6
