/-! WHAT THE TABLES SAY AT THE LAW'S ENTRY -/
theorem e_arrC {ty : FieldType} {args : Array Value} {s : State} (h : (Cond.arrayClass ty).before args s = true) : ∃ c : ClassId, ArrOfT s c ty ∧ s.vm.findClass ("[" ++ ty.toString) = some c := by
  obtain ⟨c, k, comp, h1, h2, h3⟩ := Cond.arrayClass_spec h
  exact ⟨c, fun n z => ⟨fun k h => (by cases h), k, h2, comp, h3⟩, h1⟩
theorem e_arrO {C : String} {args : Array Value} {s : State} (h : (Cond.arrayOver (.object C)).before args s = true) : ∃ c : ClassId, ArrOfT s c (.object C) ∧ va_RA s c (.object C) := by
  obtain ⟨comp, c, k, h1, h2, h3, h4, h5⟩ := Cond.arrayOver_spec h
  exact ⟨c, fun n z => ⟨fun k h => (by cases h), k, h3, comp, h4⟩, k, comp, h3, h4, h1, h5⟩
theorem e_arrA {t : FieldType} {args : Array Value} {s : State} (h : (Cond.arrayOver (.array t)).before args s = true) : ∃ c : ClassId, ArrOfT s c (.array t) ∧ s.vm.findClass ("[" ++ (FieldType.array t).toString) = some c := by
  simp only [Cond.before, Cond.holds, Cond.value, beq_iff_eq] at h
  cases hc : s.vm.findClass (FieldType.array t).toString with
  | none => simp [hc] at h
  | some comp =>
    simp only [hc, Option.bind_some, Option.bind_eq_some_iff, Option.map_eq_some_iff] at h
    obtain ⟨c, hi, k, hk, hb⟩ := h
    obtain ⟨hlt, hp, -⟩ := Array.findIdx?_eq_some_iff_getElem.mp hi
    have hkk : s.vm.classes[c] = k := (Array.getElem?_eq_some_iff.mp hk).2
    rw [hkk] at hp
    cases hkind : k.kind with
    | array component ty =>
      rw [hkind] at hb hp
      simp at hb hp
      exact ⟨c, fun n z => ⟨fun k h => (by cases h), k, hk, component, by rw [hkind, hb.1]⟩, hb.2⟩
    | _ => rw [hkind] at hb; simp at hb
set_option maxRecDepth 20000 in
theorem e_over : (∀ C ∈ [RX0, RX2, RX3], Cond.arrayOver (.object C) ∈ lw_tbl) ∧ Cond.arrayOver (.array .int) ∈ lw_tbl := by decide +kernel
set_option maxRecDepth 20000 in
theorem e_nf : ∀ q ∈ o_nf, Cond.fieldLinkNest q.1 q.2.1 q.2.2.1 q.2.2.2.1 q.2.2.2.2.1 q.2.2.2.2.2 ∈ lw_tbl := by decide +kernel
set_option maxRecDepth 20000 in
theorem e_nm : ∀ q ∈ o_nm, Cond.methodLinkNest q.1 q.2.1 q.2.2.1 q.2.2.2 ∈ lw_tbl := by decide +kernel
set_option maxRecDepth 20000 in
theorem e_tx : ∀ q ∈ o_tx, Cond.stringRef q.1 q.2.1 q.2.2 ∈ lw_tbl := by decide +kernel
set_option maxRecDepth 20000 in
theorem e_ca : ∀ q ∈ o_ca, Cond.castable q q ∈ lw_tbl := by decide +kernel
set_option maxRecDepth 20000 in
theorem e_de : ∀ q ∈ o_de, Cond.declares q ∈ lw_tbl := by decide +kernel
set_option maxRecDepth 20000 in
theorem e_ls : Cond.laysStatic Bundle.tN "UNASSIGNED_STACK" Bundle.steD ∈ lw_tbl ∧ Cond.laysStatic Bundle.tN "SUPPRESSED_SENTINEL" Bundle.listD ∈ lw_tbl ∧ Cond.initialized Bundle.tN ∈ lw_tbl := by decide +kernel
set_option maxRecDepth 20000 in
theorem e_ty : ∀ q ∈ o_tx, Cond.exactly (.string q.1 q.2.1) "java/lang/String" ∈ flatC (Jvm.Cond.and given_1 narrow_1) := by decide +kernel
set_option maxRecDepth 20000 in
theorem e_nc : ∀ q ∈ o_nc, Cond.not (.castable q.1 q.2) ∈ flatC (Jvm.Cond.and given_1 narrow_1) := by decide +kernel
set_option maxRecDepth 20000 in
theorem e_ra : Cond.isRef (.static Bundle.tN "UNASSIGNED_STACK" Bundle.steD) ∈ flatC (Jvm.Cond.and given_1 narrow_1) ∧ Cond.isRef (.static Bundle.tN "SUPPRESSED_SENTINEL" Bundle.listD) ∈ flatC (Jvm.Cond.and given_1 narrow_1) := by decide +kernel
/-- the classes' numbers and the rows' -/
theorem e_K {args : Array Value} {s : State} (hts : ∀ w ∈ lw_tbl, w.before args s = true) : ∃ (D : va_G) (cls : Nat → ClassId), ∀ f : Nat → Nat → Nat, va_K D vwCl (o_tys (D, f, cls)) s := by
  have hl : ∀ w ∈ wsL_law, w.before args s = true := fun w h => hts w (wL_in w h)
  obtain ⟨c0, i0, k0⟩ := u_known (C := RX0) (T := TX0) (N := 14) (n := 14) hl inlX0 (hl _ kw_2_14)
  obtain ⟨c1, i1, k1⟩ := u_known (C := RX1) (T := TX1) (N := 3) (n := 3) hl inlX1 (hl _ kw_2_7)
  obtain ⟨c2, i2, k2⟩ := u_known (C := RX2) (T := TX2) (N := 4) (n := 4) hl inlX2 (hl _ kw_2_16)
  obtain ⟨c3, i3, k3⟩ := u_known (C := RX3) (T := TX3) (N := 2) (n := 2) hl inlX3 (hl _ kw_1_18)
  obtain ⟨c4, i4, k4⟩ := u_known (C := RX4) (T := TX4) (N := 3) (n := 3) hl inlX4 (hl _ kw_2_11)
  obtain ⟨c5, i5, k5⟩ := u_known (C := RX5) (T := TX5) (N := 17) (n := 17) hl inlX5 (hl _ kw_1_1)
  obtain ⟨aI, a0, b0⟩ := e_arrC (hl _ kw_2_2)
  obtain ⟨d0, a1, b1⟩ := e_arrO (hts _ (e_over.1 RX0 (by decide)))
  obtain ⟨d2, a2, b2⟩ := e_arrO (hts _ (e_over.1 RX2 (by decide)))
  obtain ⟨d3, a3, b3⟩ := e_arrO (hts _ (e_over.1 RX3 (by decide)))
  obtain ⟨dA, a4, b4⟩ := e_arrA (hts _ e_over.2)
  refine ⟨(fun k => match k with | 0 => c0 | 1 => c1 | 2 => c2 | 3 => c3 | 4 => c4 | _ => c5, fun k => match k with | 0 => i0 | 1 => i1 | 2 => i2 | 3 => i3 | 4 => i4 | _ => i5), fun k => match k with | 0 => aI | 1 => d0 | 2 => d2 | 3 => d3 | _ => dA, fun f => ⟨fun c q hq => ?_, fun k q hq => ?_⟩⟩
  · match c, hq with
    | 0, hq => have e := Option.some.inj hq; subst e; exact k0
    | 1, hq => have e := Option.some.inj hq; subst e; exact k1
    | 2, hq => have e := Option.some.inj hq; subst e; exact k2
    | 3, hq => have e := Option.some.inj hq; subst e; exact k3
    | 4, hq => have e := Option.some.inj hq; subst e; exact k4
    | 5, hq => have e := Option.some.inj hq; subst e; exact k5
    | c + 6, hq => simp [vwCl] at hq
  · match k, hq with
    | 0, hq => have e := Option.some.inj hq; subst e; exact ⟨a0, b0⟩
    | 1, hq => have e := Option.some.inj hq; subst e; exact ⟨a1, b1⟩
    | 2, hq => have e := Option.some.inj hq; subst e; exact ⟨a2, b2⟩
    | 3, hq => have e := Option.some.inj hq; subst e; exact ⟨a3, b3⟩
    | 4, hq => have e := Option.some.inj hq; subst e; exact ⟨a4, b4⟩
    | k + 5, hq => simp [o_tys] at hq
/-- beside the words -/
theorem e_F {args : Array Value} {s : State} (hts : ∀ w ∈ lw_tbl, w.before args s = true) (hgv : (Jvm.Cond.and given_1 narrow_1).before args s = true) : nF s ∧ oF (fun q => s.heap.size ≤ q) s s.heap ∧ oNC s := by
  have hs := flat_of_before _ hgv
  have hm : ∀ q ∈ o_nm, va_Nw (.methodLinkNest q.1 q.2.1 q.2.2.1 q.2.2.2) s := fun q h => va_Nw.of rfl (hts _ (e_nm q h))
  have hA : ∀ a : Nat, a < s.heap.size → ¬ (fun q : Nat => s.heap.size ≤ q) a := fun a h => Nat.not_le.mpr h
  refine ⟨⟨hm, fun C hC => hts _ (e_over.1 C hC), fun _ => hts _ e_over.2⟩, ⟨fun q h => va_Nw.of rfl (hts _ (e_nf q h)), hm, fun q h => ?_, vx_Zqof (hts _ e_ls.1) (hts _ e_ls.2.2) (hs _ e_ra.1) hA, vx_Zqof (hts _ e_ls.2.1) (hts _ e_ls.2.2) (hs _ e_ra.2) hA, fun q h => va_Nw.of rfl (hts _ (e_ca q h)), fun q h => va_Nw.of rfl (hts _ (e_de q h))⟩, fun q h => va_Nc.of (hs _ (e_nc q h))⟩
  obtain ⟨a, c, cell, k, h1, -⟩ := Cond.exactly_spec (hs _ (e_ty q h))
  exact ⟨a, vk_R.of (hts _ (e_tx q h)) h1⟩
