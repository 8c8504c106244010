/-! WHAT EACH CALL OF AN OFFICE ANSWERS AND LEAVES: its post P5, what its throws say E5, when it is normal N5, and with -9 for a throw L5 -/
def P5_coil (σ : oMem) (a b d e : Int) : Int → oMem → Prop := (fun z σ' => z = σ 0 0 1 ∧ ((100 ≤ a ∧ a ≤ 2000) ∧ (1 ≤ b ∧ b ≤ 30000) ∧ (10 ≤ d ∧ d ≤ 5000) ∧ (1 ≤ e ∧ e ≤ 99)) ∧ σ 0 0 1 < 20 ∧ σ' = o_up (o_up (o_up (o_up (o_up σ 1 (σ 0 0 1).toNat 0 a) 1 (σ 0 0 1).toNat 1 b) 1 (σ 0 0 1).toNat 2 d) 1 (σ 0 0 1).toNat 3 e) 0 0 1 (σ 0 0 1 + 1))
def E5_coil (σ : oMem) (a b d e : Int) : String → Prop := (fun y => (y = xIAE ∧ ¬ ((100 ≤ a ∧ a ≤ 2000) ∧ (1 ≤ b ∧ b ≤ 30000) ∧ (10 ≤ d ∧ d ≤ 5000) ∧ (1 ≤ e ∧ e ≤ 99))) ∨ (y = xISE ∧ ((100 ≤ a ∧ a ≤ 2000) ∧ (1 ≤ b ∧ b ≤ 30000) ∧ (10 ≤ d ∧ d ≤ 5000) ∧ (1 ≤ e ∧ e ≤ 99)) ∧ ¬ σ 0 0 1 < 20))
def N5_coil (σ : oMem) (a b d e : Int) : Prop := ((100 ≤ a ∧ a ≤ 2000) ∧ (1 ≤ b ∧ b ≤ 30000) ∧ (10 ≤ d ∧ d ≤ 5000) ∧ (1 ≤ e ∧ e ≤ 99)) ∧ σ 0 0 1 < 20
def L5_coil (σ : oMem) (a b d e : Int) : Int → oMem → Prop := fun z σ' => (N5_coil σ a b d e ∧ P5_coil σ a b d e z σ') ∨ (¬ N5_coil σ a b d e ∧ z = -9 ∧ σ' = σ)
theorem PN_coil {σ σ' : oMem} {a b d e : Int} {z : Int} (h : P5_coil σ a b d e z σ') : N5_coil σ a b d e := by
  unfold P5_coil at h
  unfold N5_coil
  exact ⟨h.2.1, h.2.2.1⟩
theorem EN_coil {σ : oMem} {a b d e : Int} {X : String} (h : E5_coil σ a b d e X) : ¬ N5_coil σ a b d e := by
  unfold E5_coil at h
  unfold N5_coil
  omega
def P5_defect (σ : oMem) (a b d : Int) : Int → oMem → Prop := (fun z σ' => okC σ a ∧ ((0 ≤ b ∧ b ≤ σ 1 a.toNat 2 - 1) ∧ (b + 1 ≤ d ∧ d ≤ σ 1 a.toNat 2)) ∧ (σ 1 a.toNat 10 = -1 ∧ σ 1 a.toNat 6 < 8) ∧ z = o_cutl σ' a.toNat ∧ ∃ pl : Nat, (pl : Int) ≤ σ 1 a.toNat 6 ∧ (0 < pl → σ 2 a.toNat (pl - 1) ≤ b) ∧ (∀ j : Nat, pl ≤ j → (j : Int) < σ 1 a.toNat 6 → b < σ 2 a.toNat j) ∧ σ' = o_up (o_rw (o_rw σ 2 a.toNat (o_ins (σ 2 a.toNat) (σ 1 a.toNat 6).toNat pl b)) 3 a.toNat (o_ins (σ 3 a.toNat) (σ 1 a.toNat 6).toNat pl d)) 1 a.toNat 6 (σ 1 a.toNat 6 + 1))
def E5_defect (σ : oMem) (a b d : Int) : String → Prop := (fun y => (y = xIOB ∧ ¬ okC σ a) ∨ (y = xIAE ∧ okC σ a ∧ ¬ ((0 ≤ b ∧ b ≤ σ 1 a.toNat 2 - 1) ∧ (b + 1 ≤ d ∧ d ≤ σ 1 a.toNat 2))) ∨ (y = xISE ∧ okC σ a ∧ ((0 ≤ b ∧ b ≤ σ 1 a.toNat 2 - 1) ∧ (b + 1 ≤ d ∧ d ≤ σ 1 a.toNat 2)) ∧ ¬ (σ 1 a.toNat 10 = -1 ∧ σ 1 a.toNat 6 < 8)))
def N5_defect (σ : oMem) (a b d : Int) : Prop := okC σ a ∧ ((0 ≤ b ∧ b ≤ σ 1 a.toNat 2 - 1) ∧ (b + 1 ≤ d ∧ d ≤ σ 1 a.toNat 2)) ∧ (σ 1 a.toNat 10 = -1 ∧ σ 1 a.toNat 6 < 8)
def L5_defect (σ : oMem) (a b d : Int) : Int → oMem → Prop := fun z σ' => (N5_defect σ a b d ∧ P5_defect σ a b d z σ') ∨ (¬ N5_defect σ a b d ∧ z = -9 ∧ σ' = σ)
theorem PN_defect {σ σ' : oMem} {a b d : Int} {z : Int} (h : P5_defect σ a b d z σ') : N5_defect σ a b d := by
  unfold P5_defect at h
  unfold N5_defect
  exact ⟨h.1, h.2.1, h.2.2.1⟩
theorem EN_defect {σ : oMem} {a b d : Int} {X : String} (h : E5_defect σ a b d X) : ¬ N5_defect σ a b d := by
  unfold E5_defect at h
  unfold N5_defect
  omega
def P5_setRules (σ : oMem) (a b d : Int) : Int → oMem → Prop := (fun z σ' => z = σ 0 0 7 ∧ ((0 ≤ a ∧ a ≤ 100) ∧ (0 ≤ b ∧ b ≤ 500) ∧ (2 ≤ d ∧ d ≤ 16)) ∧ σ' = o_up (o_up (o_up σ 0 0 7 a) 0 0 8 b) 0 0 9 d)
def E5_setRules (σ : oMem) (a b d : Int) : String → Prop := (fun y => y = xIAE ∧ ¬ ((0 ≤ a ∧ a ≤ 100) ∧ (0 ≤ b ∧ b ≤ 500) ∧ (2 ≤ d ∧ d ≤ 16)))
def N5_setRules (σ : oMem) (a b d : Int) : Prop := (0 ≤ a ∧ a ≤ 100) ∧ (0 ≤ b ∧ b ≤ 500) ∧ (2 ≤ d ∧ d ≤ 16)
def L5_setRules (σ : oMem) (a b d : Int) : Int → oMem → Prop := fun z σ' => (N5_setRules σ a b d ∧ P5_setRules σ a b d z σ') ∨ (¬ N5_setRules σ a b d ∧ z = -9 ∧ σ' = σ)
theorem PN_setRules {σ σ' : oMem} {a b d : Int} {z : Int} (h : P5_setRules σ a b d z σ') : N5_setRules σ a b d := by
  unfold P5_setRules at h
  unfold N5_setRules
  exact h.2.1
theorem EN_setRules {σ : oMem} {a b d : Int} {X : String} (h : E5_setRules σ a b d X) : ¬ N5_setRules σ a b d := by
  unfold E5_setRules at h
  unfold N5_setRules
  omega
def P5_order (σ : oMem) (a b : Int) : Int → oMem → Prop := (fun z σ' => z = σ 0 0 3 ∧ ((20 ≤ a ∧ a ≤ 1000) ∧ (1 ≤ b ∧ b ≤ 50000)) ∧ σ 0 0 3 < 12 ∧ σ' = o_up (o_up (o_up σ 7 (σ 0 0 3).toNat 0 a) 7 (σ 0 0 3).toNat 1 b) 0 0 3 (σ 0 0 3 + 1))
def E5_order (σ : oMem) (a b : Int) : String → Prop := (fun y => (y = xIAE ∧ ¬ ((20 ≤ a ∧ a ≤ 1000) ∧ (1 ≤ b ∧ b ≤ 50000))) ∨ (y = xISE ∧ ((20 ≤ a ∧ a ≤ 1000) ∧ (1 ≤ b ∧ b ≤ 50000)) ∧ ¬ σ 0 0 3 < 12))
def N5_order (σ : oMem) (a b : Int) : Prop := ((20 ≤ a ∧ a ≤ 1000) ∧ (1 ≤ b ∧ b ≤ 50000)) ∧ σ 0 0 3 < 12
def L5_order (σ : oMem) (a b : Int) : Int → oMem → Prop := fun z σ' => (N5_order σ a b ∧ P5_order σ a b z σ') ∨ (¬ N5_order σ a b ∧ z = -9 ∧ σ' = σ)
theorem PN_order {σ σ' : oMem} {a b : Int} {z : Int} (h : P5_order σ a b z σ') : N5_order σ a b := by
  unfold P5_order at h
  unfold N5_order
  exact ⟨h.2.1, h.2.2.1⟩
theorem EN_order {σ : oMem} {a b : Int} {X : String} (h : E5_order σ a b X) : ¬ N5_order σ a b := by
  unfold E5_order at h
  unfold N5_order
  omega
def P5_addSlit (σ : oMem) (a : Int) : Int → oMem → Prop := (fun z σ' => z = σ 8 10 1 + 1 ∧ (20 ≤ a ∧ a ≤ 1000) ∧ σ 8 10 1 < 15 ∧ σ' = o_up (o_up σ 9 10 (σ 8 10 1).toNat a) 8 10 1 (σ 8 10 1 + 1))
def E5_addSlit (σ : oMem) (a : Int) : String → Prop := (fun y => (y = xIAE ∧ ¬ (20 ≤ a ∧ a ≤ 1000)) ∨ (y = xISE ∧ (20 ≤ a ∧ a ≤ 1000) ∧ ¬ σ 8 10 1 < 15))
def N5_addSlit (σ : oMem) (a : Int) : Prop := (20 ≤ a ∧ a ≤ 1000) ∧ σ 8 10 1 < 15
def L5_addSlit (σ : oMem) (a : Int) : Int → oMem → Prop := fun z σ' => (N5_addSlit σ a ∧ P5_addSlit σ a z σ') ∨ (¬ N5_addSlit σ a ∧ z = -9 ∧ σ' = σ)
theorem PN_addSlit {σ σ' : oMem} {a : Int} {z : Int} (h : P5_addSlit σ a z σ') : N5_addSlit σ a := by
  unfold P5_addSlit at h
  unfold N5_addSlit
  exact ⟨h.2.1, h.2.2.1⟩
theorem EN_addSlit {σ : oMem} {a : Int} {X : String} (h : E5_addSlit σ a X) : ¬ N5_addSlit σ a := by
  unfold E5_addSlit at h
  unfold N5_addSlit
  omega
def P5_draftWidth (σ : oMem) (a : Int) : Int → oMem → Prop := (fun z σ' => z = σ 9 10 a.toNat ∧ (0 ≤ a ∧ a < σ 8 10 1) ∧ σ' = σ)
def E5_draftWidth (σ : oMem) (a : Int) : String → Prop := (fun y => y = xIOB ∧ ¬ (0 ≤ a ∧ a < σ 8 10 1))
def N5_draftWidth (σ : oMem) (a : Int) : Prop := 0 ≤ a ∧ a < σ 8 10 1
def L5_draftWidth (σ : oMem) (a : Int) : Int → oMem → Prop := fun z σ' => (N5_draftWidth σ a ∧ P5_draftWidth σ a z σ') ∨ (¬ N5_draftWidth σ a ∧ z = -9 ∧ σ' = σ)
theorem PN_draftWidth {σ σ' : oMem} {a : Int} {z : Int} (h : P5_draftWidth σ a z σ') : N5_draftWidth σ a := by
  unfold P5_draftWidth at h
  unfold N5_draftWidth
  exact h.2.1
theorem EN_draftWidth {σ : oMem} {a : Int} {X : String} (h : E5_draftWidth σ a X) : ¬ N5_draftWidth σ a := by
  unfold E5_draftWidth at h
  unfold N5_draftWidth
  omega
def P5_keep (σ : oMem) : Int → oMem → Prop := (fun z σ' => z = σ 0 0 5 ∧ (0 < σ 8 10 1 ∧ σ 0 0 5 < 10) ∧ σ' = o_up (o_up (o_up (o_bl σ 9 (σ 0 0 5).toNat (σ 8 10 1).toNat (σ 9 10)) 8 (σ 0 0 5).toNat 1 (σ 8 10 1)) 8 10 1 0) 0 0 5 (σ 0 0 5 + 1))
def E5_keep (σ : oMem) : String → Prop := (fun y => y = xISE ∧ ¬ (0 < σ 8 10 1 ∧ σ 0 0 5 < 10))
def N5_keep (σ : oMem) : Prop := 0 < σ 8 10 1 ∧ σ 0 0 5 < 10
def L5_keep (σ : oMem) : Int → oMem → Prop := fun z σ' => (N5_keep σ ∧ P5_keep σ z σ') ∨ (¬ N5_keep σ ∧ z = -9 ∧ σ' = σ)
theorem PN_keep {σ σ' : oMem} {z : Int} (h : P5_keep σ z σ') : N5_keep σ := by
  unfold P5_keep at h
  unfold N5_keep
  exact h.2.1
theorem EN_keep {σ : oMem} {X : String} (h : E5_keep σ X) : ¬ N5_keep σ := by
  unfold E5_keep at h
  unfold N5_keep
  omega
def P5_fill (σ : oMem) (a : Int) : Int → oMem → Prop := (fun z σ' => okC σ a ∧ isG (oWt σ (σ 1 a.toNat 3)) (σ 0 0 9) (σ 1 a.toNat 0 - 2 * σ 0 0 7) z ∧ (∃ n : Nat, n ≤ 15 ∧ σ' 8 10 1 = n ∧ isF (oWt σ (σ 1 a.toNat 3)) z n (σ' 9 10)) ∧ TB σ' ∧ (∀ K, K ≠ 8 → K ≠ 9 → K ≠ 10 → K ≠ 11 → K ≠ 12 → σ' K = σ K) ∧ ∀ q, q ≠ 10 → σ' 8 q = σ 8 q ∧ σ' 9 q = σ 9 q)
def E5_fill (σ : oMem) (a : Int) : String → Prop := (fun y => y = xIOB ∧ ¬ okC σ a)
def N5_fill (σ : oMem) (a : Int) : Prop := okC σ a
def L5_fill (σ : oMem) (a : Int) : Int → oMem → Prop := fun z σ' => (N5_fill σ a ∧ P5_fill σ a z σ') ∨ (¬ N5_fill σ a ∧ z = -9 ∧ σ' = σ)
theorem PN_fill {σ σ' : oMem} {a : Int} {z : Int} (h : P5_fill σ a z σ') : N5_fill σ a := by
  unfold P5_fill at h
  unfold N5_fill
  exact h.1
theorem EN_fill {σ : oMem} {a : Int} {X : String} (h : E5_fill σ a X) : ¬ N5_fill σ a := by
  unfold E5_fill at h
  unfold N5_fill
  omega
def P5_fullestByTrying (σ : oMem) (a : Int) : Int → oMem → Prop := (fun z σ' => okC σ a ∧ σ 0 0 9 ≤ 8 ∧ isG (oWt σ (σ 1 a.toNat 3)) (σ 0 0 9) (σ 1 a.toNat 0 - 2 * σ 0 0 7) z ∧ (∀ K, K ≠ 10 → K ≠ 11 → σ' K = σ K))
def E5_fullestByTrying (σ : oMem) (a : Int) : String → Prop := (fun y => (y = xIOB ∧ ¬ okC σ a) ∨ (y = xISE ∧ okC σ a ∧ ¬ σ 0 0 9 ≤ 8))
def N5_fullestByTrying (σ : oMem) (a : Int) : Prop := okC σ a ∧ σ 0 0 9 ≤ 8
def L5_fullestByTrying (σ : oMem) (a : Int) : Int → oMem → Prop := fun z σ' => (N5_fullestByTrying σ a ∧ P5_fullestByTrying σ a z σ') ∨ (¬ N5_fullestByTrying σ a ∧ z = -9 ∧ σ' = σ)
theorem PN_fullestByTrying {σ σ' : oMem} {a : Int} {z : Int} (h : P5_fullestByTrying σ a z σ') : N5_fullestByTrying σ a := by
  unfold P5_fullestByTrying at h
  unfold N5_fullestByTrying
  exact ⟨h.1, h.2.1⟩
theorem EN_fullestByTrying {σ : oMem} {a : Int} {X : String} (h : E5_fullestByTrying σ a X) : ¬ N5_fullestByTrying σ a := by
  unfold E5_fullestByTrying at h
  unfold N5_fullestByTrying
  omega
def P5_run (σ : oMem) (a b : Int) : Int → oMem → Prop := (fun z σ' => (okC σ a ∧ okP σ b) ∧ (σ 1 a.toNat 10 = -1 ∧ o_fit σ b.toNat a.toNat) ∧ z = (o_run σ a.toNat b.toNat).2 ∧ σ' = (o_run σ a.toNat b.toNat).1)
def E5_run (σ : oMem) (a b : Int) : String → Prop := (fun y => (y = xIOB ∧ ¬ (okC σ a ∧ okP σ b)) ∨ (y = xISE ∧ (okC σ a ∧ okP σ b) ∧ ¬ (σ 1 a.toNat 10 = -1 ∧ o_fit σ b.toNat a.toNat)))
def N5_run (σ : oMem) (a b : Int) : Prop := (okC σ a ∧ okP σ b) ∧ (σ 1 a.toNat 10 = -1 ∧ o_fit σ b.toNat a.toNat)
def L5_run (σ : oMem) (a b : Int) : Int → oMem → Prop := fun z σ' => (N5_run σ a b ∧ P5_run σ a b z σ') ∨ (¬ N5_run σ a b ∧ z = -9 ∧ σ' = σ)
theorem PN_run {σ σ' : oMem} {a b : Int} {z : Int} (h : P5_run σ a b z σ') : N5_run σ a b := ⟨h.1, h.2.1⟩
theorem EN_run {σ : oMem} {a b : Int} {X : String} (h : E5_run σ a b X) : ¬ N5_run σ a b := by
  intro n
  rcases h with ⟨-, h⟩ | ⟨-, h1, h2⟩
  · exact h n.1
  · exact h2 n.2
def P5_moves (σ : oMem) (a : Int) : Int → oMem → Prop := (fun z σ' => z = oMb σ (σ 0 0 10) a ∧ okP σ a ∧ σ' = σ)
def E5_moves (σ : oMem) (a : Int) : String → Prop := (fun y => y = xIOB ∧ ¬ okP σ a)
def N5_moves (σ : oMem) (a : Int) : Prop := okP σ a
def L5_moves (σ : oMem) (a : Int) : Int → oMem → Prop := fun z σ' => (N5_moves σ a ∧ P5_moves σ a z σ') ∨ (¬ N5_moves σ a ∧ z = -9 ∧ σ' = σ)
theorem PN_moves {σ σ' : oMem} {a : Int} {z : Int} (h : P5_moves σ a z σ') : N5_moves σ a := by
  unfold P5_moves at h
  unfold N5_moves
  exact h.2.1
theorem EN_moves {σ : oMem} {a : Int} {X : String} (h : E5_moves σ a X) : ¬ N5_moves σ a := by
  unfold E5_moves at h
  unfold N5_moves
  omega
def P5_plan (σ : oMem) (a b : Int) : Int → oMem → Prop := (fun z σ' => (okC σ a ∧ okP σ b) ∧ (σ 1 a.toNat 10 = -1 ∧ o_fit σ b.toNat a.toNat ∧ (∀ i : Nat, (i : Int) < σ 0 0 14 → σ 17 0 i ≠ a) ∧ σ 0 0 14 < 7) ∧ z = σ 0 0 14 ∧ σ' = o_up (o_up (o_up σ 17 0 (σ 0 0 14).toNat a) 18 0 (σ 0 0 14).toNat b) 0 0 14 (σ 0 0 14 + 1))
def E5_plan (σ : oMem) (a b : Int) : String → Prop := (fun y => (y = xIOB ∧ ¬ (okC σ a ∧ okP σ b)) ∨ (y = xISE ∧ (okC σ a ∧ okP σ b) ∧ ¬ (σ 1 a.toNat 10 = -1 ∧ o_fit σ b.toNat a.toNat ∧ (∀ i : Nat, (i : Int) < σ 0 0 14 → σ 17 0 i ≠ a) ∧ σ 0 0 14 < 7)))
def N5_plan (σ : oMem) (a b : Int) : Prop := (okC σ a ∧ okP σ b) ∧ (σ 1 a.toNat 10 = -1 ∧ o_fit σ b.toNat a.toNat ∧ (∀ i : Nat, (i : Int) < σ 0 0 14 → σ 17 0 i ≠ a) ∧ σ 0 0 14 < 7)
def L5_plan (σ : oMem) (a b : Int) : Int → oMem → Prop := fun z σ' => (N5_plan σ a b ∧ P5_plan σ a b z σ') ∨ (¬ N5_plan σ a b ∧ z = -9 ∧ σ' = σ)
theorem PN_plan {σ σ' : oMem} {a b : Int} {z : Int} (h : P5_plan σ a b z σ') : N5_plan σ a b := ⟨h.1, h.2.1⟩
theorem EN_plan {σ : oMem} {a b : Int} {X : String} (h : E5_plan σ a b X) : ¬ N5_plan σ a b := by
  intro n
  rcases h with ⟨-, h⟩ | ⟨-, h1, h2⟩
  · exact h n.1
  · exact h2 n.2
def P5_nextAt (σ : oMem) (a : Int) : Int → oMem → Prop := (fun z σ' => (0 ≤ a ∧ a < σ 0 0 14) ∧ (∃ q : Nat → Nat, isBest (mvX σ) (σ 0 0 14).toNat q ∧ z = q a.toNat) ∧ OM σ' ∧ ∀ K, K ≠ 14 → K ≠ 15 → K ≠ 16 → σ' K = σ K)
def E5_nextAt (σ : oMem) (a : Int) : String → Prop := (fun y => y = xIOB ∧ ¬ (0 ≤ a ∧ a < σ 0 0 14))
def N5_nextAt (σ : oMem) (a : Int) : Prop := 0 ≤ a ∧ a < σ 0 0 14
def L5_nextAt (σ : oMem) (a : Int) : Int → oMem → Prop := fun z σ' => (N5_nextAt σ a ∧ P5_nextAt σ a z σ') ∨ (¬ N5_nextAt σ a ∧ z = -9 ∧ σ' = σ)
theorem PN_nextAt {σ σ' : oMem} {a : Int} {z : Int} (h : P5_nextAt σ a z σ') : N5_nextAt σ a := by
  unfold P5_nextAt at h
  unfold N5_nextAt
  exact h.1
theorem EN_nextAt {σ : oMem} {a : Int} {X : String} (h : E5_nextAt σ a X) : ¬ N5_nextAt σ a := by
  unfold E5_nextAt at h
  unfold N5_nextAt
  omega
def P5_slits (σ : oMem) (a : Int) : Int → oMem → Prop := (fun z σ' => z = σ 1 a.toNat 10 ∧ okC σ a ∧ σ' = σ)
def E5_slits (σ : oMem) (a : Int) : String → Prop := (fun y => y = xIOB ∧ ¬ okC σ a)
def N5_slits (σ : oMem) (a : Int) : Prop := okC σ a
def L5_slits (σ : oMem) (a : Int) : Int → oMem → Prop := fun z σ' => (N5_slits σ a ∧ P5_slits σ a z σ') ∨ (¬ N5_slits σ a ∧ z = -9 ∧ σ' = σ)
theorem PN_slits {σ σ' : oMem} {a : Int} {z : Int} (h : P5_slits σ a z σ') : N5_slits σ a := by
  unfold P5_slits at h
  unfold N5_slits
  exact h.2.1
theorem EN_slits {σ : oMem} {a : Int} {X : String} (h : E5_slits σ a X) : ¬ N5_slits σ a := by
  unfold E5_slits at h
  unfold N5_slits
  omega
def P5_slitWeight (σ : oMem) (a b : Int) : Int → oMem → Prop := (fun z σ' => z = σ 5 a.toNat b.toNat ∧ (okC σ a ∧ 0 ≤ b ∧ b < σ 1 a.toNat 10) ∧ σ' = σ)
def E5_slitWeight (σ : oMem) (a b : Int) : String → Prop := (fun y => y = xIOB ∧ ¬ (okC σ a ∧ 0 ≤ b ∧ b < σ 1 a.toNat 10))
def N5_slitWeight (σ : oMem) (a b : Int) : Prop := okC σ a ∧ 0 ≤ b ∧ b < σ 1 a.toNat 10
def L5_slitWeight (σ : oMem) (a b : Int) : Int → oMem → Prop := fun z σ' => (N5_slitWeight σ a b ∧ P5_slitWeight σ a b z σ') ∨ (¬ N5_slitWeight σ a b ∧ z = -9 ∧ σ' = σ)
theorem PN_slitWeight {σ σ' : oMem} {a b : Int} {z : Int} (h : P5_slitWeight σ a b z σ') : N5_slitWeight σ a b := by
  unfold P5_slitWeight at h
  unfold N5_slitWeight
  exact h.2.1
theorem EN_slitWeight {σ : oMem} {a b : Int} {X : String} (h : E5_slitWeight σ a b X) : ¬ N5_slitWeight σ a b := by
  unfold E5_slitWeight at h
  unfold N5_slitWeight
  omega
def P5_slitOrder (σ : oMem) (a b : Int) : Int → oMem → Prop := (fun z σ' => z = σ 6 a.toNat b.toNat ∧ (okC σ a ∧ 0 ≤ b ∧ b < σ 1 a.toNat 10) ∧ σ' = σ)
def E5_slitOrder (σ : oMem) (a b : Int) : String → Prop := (fun y => y = xIOB ∧ ¬ (okC σ a ∧ 0 ≤ b ∧ b < σ 1 a.toNat 10))
def N5_slitOrder (σ : oMem) (a b : Int) : Prop := okC σ a ∧ 0 ≤ b ∧ b < σ 1 a.toNat 10
def L5_slitOrder (σ : oMem) (a b : Int) : Int → oMem → Prop := fun z σ' => (N5_slitOrder σ a b ∧ P5_slitOrder σ a b z σ') ∨ (¬ N5_slitOrder σ a b ∧ z = -9 ∧ σ' = σ)
theorem PN_slitOrder {σ σ' : oMem} {a b : Int} {z : Int} (h : P5_slitOrder σ a b z σ') : N5_slitOrder σ a b := by
  unfold P5_slitOrder at h
  unfold N5_slitOrder
  exact h.2.1
theorem EN_slitOrder {σ : oMem} {a b : Int} {X : String} (h : E5_slitOrder σ a b X) : ¬ N5_slitOrder σ a b := by
  unfold E5_slitOrder at h
  unfold N5_slitOrder
  omega
def P5_lost (σ : oMem) (a b : Int) : Int → oMem → Prop := (fun z σ' => z = σ 1 a.toNat (11 + b.toNat) ∧ (okC σ a ∧ (0 ≤ b ∧ b ≤ 2)) ∧ σ' = σ)
def E5_lost (σ : oMem) (a b : Int) : String → Prop := (fun y => (y = xIOB ∧ ¬ okC σ a) ∨ (y = xIAE ∧ okC σ a ∧ ¬ (0 ≤ b ∧ b ≤ 2)))
def N5_lost (σ : oMem) (a b : Int) : Prop := okC σ a ∧ (0 ≤ b ∧ b ≤ 2)
def L5_lost (σ : oMem) (a b : Int) : Int → oMem → Prop := fun z σ' => (N5_lost σ a b ∧ P5_lost σ a b z σ') ∨ (¬ N5_lost σ a b ∧ z = -9 ∧ σ' = σ)
theorem PN_lost {σ σ' : oMem} {a b : Int} {z : Int} (h : P5_lost σ a b z σ') : N5_lost σ a b := by
  unfold P5_lost at h
  unfold N5_lost
  exact h.2.1
theorem EN_lost {σ : oMem} {a b : Int} {X : String} (h : E5_lost σ a b X) : ¬ N5_lost σ a b := by
  unfold E5_lost at h
  unfold N5_lost
  omega
def P5_delivered (σ : oMem) (a : Int) : Int → oMem → Prop := (fun z σ' => z = σ 7 a.toNat 2 ∧ okO σ a ∧ σ' = σ)
def E5_delivered (σ : oMem) (a : Int) : String → Prop := (fun y => y = xIOB ∧ ¬ okO σ a)
def N5_delivered (σ : oMem) (a : Int) : Prop := okO σ a
def L5_delivered (σ : oMem) (a : Int) : Int → oMem → Prop := fun z σ' => (N5_delivered σ a ∧ P5_delivered σ a z σ') ∨ (¬ N5_delivered σ a ∧ z = -9 ∧ σ' = σ)
theorem PN_delivered {σ σ' : oMem} {a : Int} {z : Int} (h : P5_delivered σ a z σ') : N5_delivered σ a := by
  unfold P5_delivered at h
  unfold N5_delivered
  exact h.2.1
theorem EN_delivered {σ : oMem} {a : Int} {X : String} (h : E5_delivered σ a X) : ¬ N5_delivered σ a := by
  unfold E5_delivered at h
  unfold N5_delivered
  omega
def P5_heatOf (σ : oMem) (a : Int) : Int → oMem → Prop := (fun z σ' => z = σ 7 a.toNat 3 ∧ okO σ a ∧ σ' = σ)
def E5_heatOf (σ : oMem) (a : Int) : String → Prop := (fun y => y = xIOB ∧ ¬ okO σ a)
def N5_heatOf (σ : oMem) (a : Int) : Prop := okO σ a
def L5_heatOf (σ : oMem) (a : Int) : Int → oMem → Prop := fun z σ' => (N5_heatOf σ a ∧ P5_heatOf σ a z σ') ∨ (¬ N5_heatOf σ a ∧ z = -9 ∧ σ' = σ)
theorem PN_heatOf {σ σ' : oMem} {a : Int} {z : Int} (h : P5_heatOf σ a z σ') : N5_heatOf σ a := by
  unfold P5_heatOf at h
  unfold N5_heatOf
  exact h.2.1
theorem EN_heatOf {σ : oMem} {a : Int} {X : String} (h : E5_heatOf σ a X) : ¬ N5_heatOf σ a := by
  unfold E5_heatOf at h
  unfold N5_heatOf
  omega
def P5_draftSlits (σ : oMem) : Int → oMem → Prop := (fun z σ' => z = σ 8 10 1 ∧ σ' = σ)
def P5_moved (σ : oMem) : Int → oMem → Prop := (fun z σ' => z = σ 0 0 11 ∧ σ' = σ)
def P5_waiting (σ : oMem) : Int → oMem → Prop := (fun z σ' => z = σ 0 0 14 ∧ σ' = σ)
def P5_fewestMoves (σ : oMem) : Int → oMem → Prop := (fun z σ' => z = oFC (mvX σ) (σ 0 0 14).toNat 7 (2 ^ (σ 0 0 14).toNat - 1) ∧ OM σ' ∧ ∀ K, K ≠ 14 → K ≠ 15 → σ' K = σ K)
def P5_stock (σ : oMem) (a : Int) : Int → oMem → Prop := (fun z σ' => z = o_sum (o_st σ a) (σ 0 0 1).toNat ∧ σ' = σ)
def P5_runAll (σ : oMem) : Int → oMem → Prop := (fun z σ' => ∃ (q : Nat → Nat) (μ : oMem), isBest (mvX σ) (σ 0 0 14).toNat q ∧ (∀ K, K ≠ 14 → K ≠ 15 → K ≠ 16 → μ K = σ K) ∧ OM μ ∧ z = (o_ra μ q (σ 0 0 14).toNat).2 ∧ σ' = o_up (o_ra μ q (σ 0 0 14).toNat).1 0 0 14 0)
