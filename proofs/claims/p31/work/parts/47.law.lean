/-! both calls, one behind the other -/
theorem JP_coil {σ σ1 τ2 : oMem} {a b d e : Int} {z y : Int} (h : J σ) (he : 1 ≤ e ∧ e ≤ 99) (A : L5_coil σ a b d e z σ1) (B : L5_coil (sw σ1) a b d (100 - e) y τ2) : y = z ∧ J (sw τ2) := by
  have m := J_mid (σ1 := σ1) h (fun K hK => (FR_coil A K hK))
  exact J_step (σ1 := σ1) (fun K hK => (FR_coil B K hK)) (PR_coil m.1 m.2.1 m.2.2 he A B)
theorem JX_coil {σ σ1 : oMem} {a b d e : Int} {z : Int} (h : J σ) (A : L5_coil σ a b d e z σ1) : XI (sw σ1) := (J_mid (σ1 := σ1) h (fun K hK => (FR_coil A K hK))).2.2.1
theorem JP_defect {σ σ1 τ2 : oMem} {a b d : Int} {z y : Int} (h : J σ) (A : L5_defect σ a b d z σ1) (B : L5_defect (sw σ1) a b d y τ2) : y = z ∧ J (sw τ2) := by
  have m := J_mid (σ1 := σ1) h (fun K hK => (FR_defect A K hK))
  exact J_step (σ1 := σ1) (fun K hK => (FR_defect B K hK)) (PR_defect m.1 m.2.1 m.2.2 A B)
theorem JX_defect {σ σ1 : oMem} {a b d : Int} {z : Int} (h : J σ) (A : L5_defect σ a b d z σ1) : XI (sw σ1) := (J_mid (σ1 := σ1) h (fun K hK => (FR_defect A K hK))).2.2.1
theorem JP_setRules {σ σ1 τ2 : oMem} {a b d : Int} {z y : Int} (h : J σ) (A : L5_setRules σ a b d z σ1) (B : L5_setRules (sw σ1) a b d y τ2) : y = z ∧ J (sw τ2) := by
  have m := J_mid (σ1 := σ1) h (fun K hK => (FR_setRules A K hK))
  exact J_step (σ1 := σ1) (fun K hK => (FR_setRules B K hK)) (PR_setRules m.1 m.2.1 m.2.2 A B)
theorem JX_setRules {σ σ1 : oMem} {a b d : Int} {z : Int} (h : J σ) (A : L5_setRules σ a b d z σ1) : XI (sw σ1) := (J_mid (σ1 := σ1) h (fun K hK => (FR_setRules A K hK))).2.2.1
theorem JP_order {σ σ1 τ2 : oMem} {a b : Int} {z y : Int} (h : J σ) (A : L5_order σ a b z σ1) (B : L5_order (sw σ1) a b y τ2) : y = z ∧ J (sw τ2) := by
  have m := J_mid (σ1 := σ1) h (fun K hK => (FR_order A K hK))
  exact J_step (σ1 := σ1) (fun K hK => (FR_order B K hK)) (PR_order m.1 m.2.1 m.2.2 A B)
theorem JX_order {σ σ1 : oMem} {a b : Int} {z : Int} (h : J σ) (A : L5_order σ a b z σ1) : XI (sw σ1) := (J_mid (σ1 := σ1) h (fun K hK => (FR_order A K hK))).2.2.1
theorem JP_addSlit {σ σ1 τ2 : oMem} {a : Int} {z y : Int} (h : J σ) (A : L5_addSlit σ a z σ1) (B : L5_addSlit (sw σ1) a y τ2) : y = z ∧ J (sw τ2) := by
  have m := J_mid (σ1 := σ1) h (fun K hK => (FR_addSlit A K hK))
  exact J_step (σ1 := σ1) (fun K hK => (FR_addSlit B K hK)) (PR_addSlit m.1 m.2.1 m.2.2 A B)
theorem JX_addSlit {σ σ1 : oMem} {a : Int} {z : Int} (h : J σ) (A : L5_addSlit σ a z σ1) : XI (sw σ1) := (J_mid (σ1 := σ1) h (fun K hK => (FR_addSlit A K hK))).2.2.1
theorem JP_draftWidth {σ σ1 τ2 : oMem} {a : Int} {z y : Int} (h : J σ) (A : L5_draftWidth σ a z σ1) (B : L5_draftWidth (sw σ1) a y τ2) : y = z ∧ J (sw τ2) := by
  have m := J_mid (σ1 := σ1) h (fun K hK => (by rw [FR_draftWidth A]))
  exact J_step (σ1 := σ1) (fun K hK => (by rw [FR_draftWidth B])) (PR_draftWidth m.1 m.2.1 m.2.2 A B)
theorem JX_draftWidth {σ σ1 : oMem} {a : Int} {z : Int} (h : J σ) (A : L5_draftWidth σ a z σ1) : XI (sw σ1) := (J_mid (σ1 := σ1) h (fun K hK => (by rw [FR_draftWidth A]))).2.2.1
theorem JK_draftWidth {σ σ1 τ2 : oMem} {a : Int} {z y : Int} (A : L5_draftWidth σ a z σ1) (B : L5_draftWidth (sw σ1) a y τ2) : (sw τ2) 0 = σ 0 ∧ (sw τ2) 7 = σ 7 := ⟨by rw [J_lo (σ1 := σ1) (τ2 := τ2) (fun K hK => (by rw [FR_draftWidth B])) 0 (by decide), FR_draftWidth A], by rw [J_lo (σ1 := σ1) (τ2 := τ2) (fun K hK => (by rw [FR_draftWidth B])) 7 (by decide), FR_draftWidth A]⟩
theorem JP_keep {σ σ1 τ2 : oMem} {z y : Int} (h : J σ) (A : L5_keep σ z σ1) (B : L5_keep (sw σ1) y τ2) : y = z ∧ J (sw τ2) := by
  have m := J_mid (σ1 := σ1) h (fun K hK => (FR_keep A K hK))
  exact J_step (σ1 := σ1) (fun K hK => (FR_keep B K hK)) (PR_keep m.1 m.2.1 m.2.2 A B)
theorem JX_keep {σ σ1 : oMem} {z : Int} (h : J σ) (A : L5_keep σ z σ1) : XI (sw σ1) := (J_mid (σ1 := σ1) h (fun K hK => (FR_keep A K hK))).2.2.1
theorem JP_fill {σ σ1 τ2 : oMem} {a : Int} {z y : Int} (h : J σ) (A : L5_fill σ a z σ1) (B : L5_fill (sw σ1) a y τ2) : y = z ∧ J (sw τ2) := by
  have m := J_mid (σ1 := σ1) h (fun K hK => (FR_fill A K hK))
  exact J_step (σ1 := σ1) (fun K hK => (FR_fill B K hK)) (PR_fill m.1 m.2.1 m.2.2 A B)
theorem JX_fill {σ σ1 : oMem} {a : Int} {z : Int} (h : J σ) (A : L5_fill σ a z σ1) : XI (sw σ1) := (J_mid (σ1 := σ1) h (fun K hK => (FR_fill A K hK))).2.2.1
theorem JP_fullestByTrying {σ σ1 τ2 : oMem} {a : Int} {z y : Int} (h : J σ) (A : L5_fullestByTrying σ a z σ1) (B : L5_fullestByTrying (sw σ1) a y τ2) : y = z ∧ J (sw τ2) := by
  have m := J_mid (σ1 := σ1) h (fun K hK => (FR_fullestByTrying A K hK))
  exact J_step (σ1 := σ1) (fun K hK => (FR_fullestByTrying B K hK)) (PR_fullestByTrying m.1 m.2.1 m.2.2 A B)
theorem JX_fullestByTrying {σ σ1 : oMem} {a : Int} {z : Int} (h : J σ) (A : L5_fullestByTrying σ a z σ1) : XI (sw σ1) := (J_mid (σ1 := σ1) h (fun K hK => (FR_fullestByTrying A K hK))).2.2.1
theorem JP_run {σ σ1 τ2 : oMem} {a b : Int} {z y : Int} (h : J σ) (A : L5_run σ a b z σ1) (B : L5_run (sw σ1) a b y τ2) : y = z ∧ J (sw τ2) := by
  have m := J_mid (σ1 := σ1) h (fun K hK => (FR_run A K hK))
  exact J_step (σ1 := σ1) (fun K hK => (FR_run B K hK)) (PR_run m.1 m.2.1 m.2.2 A B)
theorem JX_run {σ σ1 : oMem} {a b : Int} {z : Int} (h : J σ) (A : L5_run σ a b z σ1) : XI (sw σ1) := (J_mid (σ1 := σ1) h (fun K hK => (FR_run A K hK))).2.2.1
theorem JP_moves {σ σ1 τ2 : oMem} {a : Int} {z y : Int} (h : J σ) (A : L5_moves σ a z σ1) (B : L5_moves (sw σ1) a y τ2) : y = z ∧ J (sw τ2) := by
  have m := J_mid (σ1 := σ1) h (fun K hK => (by rw [FR_moves A]))
  exact J_step (σ1 := σ1) (fun K hK => (by rw [FR_moves B])) (PR_moves m.1 m.2.1 m.2.2 A B)
theorem JX_moves {σ σ1 : oMem} {a : Int} {z : Int} (h : J σ) (A : L5_moves σ a z σ1) : XI (sw σ1) := (J_mid (σ1 := σ1) h (fun K hK => (by rw [FR_moves A]))).2.2.1
theorem JK_moves {σ σ1 τ2 : oMem} {a : Int} {z y : Int} (A : L5_moves σ a z σ1) (B : L5_moves (sw σ1) a y τ2) : (sw τ2) 0 = σ 0 ∧ (sw τ2) 7 = σ 7 := ⟨by rw [J_lo (σ1 := σ1) (τ2 := τ2) (fun K hK => (by rw [FR_moves B])) 0 (by decide), FR_moves A], by rw [J_lo (σ1 := σ1) (τ2 := τ2) (fun K hK => (by rw [FR_moves B])) 7 (by decide), FR_moves A]⟩
theorem JP_plan {σ σ1 τ2 : oMem} {a b : Int} {z y : Int} (h : J σ) (A : L5_plan σ a b z σ1) (B : L5_plan (sw σ1) a b y τ2) : y = z ∧ J (sw τ2) := by
  have m := J_mid (σ1 := σ1) h (fun K hK => (FR_plan A K hK))
  exact J_step (σ1 := σ1) (fun K hK => (FR_plan B K hK)) (PR_plan m.1 m.2.1 m.2.2 A B)
theorem JX_plan {σ σ1 : oMem} {a b : Int} {z : Int} (h : J σ) (A : L5_plan σ a b z σ1) : XI (sw σ1) := (J_mid (σ1 := σ1) h (fun K hK => (FR_plan A K hK))).2.2.1
theorem JP_nextAt {σ σ1 τ2 : oMem} {a : Int} {z y : Int} (h : J σ) (A : L5_nextAt σ a z σ1) (B : L5_nextAt (sw σ1) a y τ2) : y = z ∧ J (sw τ2) := by
  have m := J_mid (σ1 := σ1) h (fun K hK => (FR_nextAt A K ⟨by omega, by omega, by omega⟩))
  exact J_step (σ1 := σ1) (fun K hK => (FR_nextAt B K ⟨by omega, by omega, by omega⟩)) (PR_nextAt m.1 m.2.1 m.2.2 A B)
theorem JX_nextAt {σ σ1 : oMem} {a : Int} {z : Int} (h : J σ) (A : L5_nextAt σ a z σ1) : XI (sw σ1) := (J_mid (σ1 := σ1) h (fun K hK => (FR_nextAt A K ⟨by omega, by omega, by omega⟩))).2.2.1
theorem JK_nextAt {σ σ1 τ2 : oMem} {a : Int} {z y : Int} (A : L5_nextAt σ a z σ1) (B : L5_nextAt (sw σ1) a y τ2) : (sw τ2) 0 = σ 0 ∧ (sw τ2) 7 = σ 7 := ⟨by rw [J_lo (σ1 := σ1) (τ2 := τ2) (fun K hK => (FR_nextAt B K ⟨by omega, by omega, by omega⟩)) 0 (by decide), FR_nextAt A 0 ⟨by decide, by decide, by decide⟩], by rw [J_lo (σ1 := σ1) (τ2 := τ2) (fun K hK => (FR_nextAt B K ⟨by omega, by omega, by omega⟩)) 7 (by decide), FR_nextAt A 7 ⟨by decide, by decide, by decide⟩]⟩
theorem JP_slits {σ σ1 τ2 : oMem} {a : Int} {z y : Int} (h : J σ) (A : L5_slits σ a z σ1) (B : L5_slits (sw σ1) a y τ2) : y = z ∧ J (sw τ2) := by
  have m := J_mid (σ1 := σ1) h (fun K hK => (by rw [FR_slits A]))
  exact J_step (σ1 := σ1) (fun K hK => (by rw [FR_slits B])) (PR_slits m.1 m.2.1 m.2.2 A B)
theorem JX_slits {σ σ1 : oMem} {a : Int} {z : Int} (h : J σ) (A : L5_slits σ a z σ1) : XI (sw σ1) := (J_mid (σ1 := σ1) h (fun K hK => (by rw [FR_slits A]))).2.2.1
theorem JP_slitWeight {σ σ1 τ2 : oMem} {a b : Int} {z y : Int} (h : J σ) (A : L5_slitWeight σ a b z σ1) (B : L5_slitWeight (sw σ1) a b y τ2) : y = z ∧ J (sw τ2) := by
  have m := J_mid (σ1 := σ1) h (fun K hK => (by rw [FR_slitWeight A]))
  exact J_step (σ1 := σ1) (fun K hK => (by rw [FR_slitWeight B])) (PR_slitWeight m.1 m.2.1 m.2.2 A B)
theorem JX_slitWeight {σ σ1 : oMem} {a b : Int} {z : Int} (h : J σ) (A : L5_slitWeight σ a b z σ1) : XI (sw σ1) := (J_mid (σ1 := σ1) h (fun K hK => (by rw [FR_slitWeight A]))).2.2.1
theorem JP_slitOrder {σ σ1 τ2 : oMem} {a b : Int} {z y : Int} (h : J σ) (A : L5_slitOrder σ a b z σ1) (B : L5_slitOrder (sw σ1) a b y τ2) : y = z ∧ J (sw τ2) := by
  have m := J_mid (σ1 := σ1) h (fun K hK => (by rw [FR_slitOrder A]))
  exact J_step (σ1 := σ1) (fun K hK => (by rw [FR_slitOrder B])) (PR_slitOrder m.1 m.2.1 m.2.2 A B)
theorem JX_slitOrder {σ σ1 : oMem} {a b : Int} {z : Int} (h : J σ) (A : L5_slitOrder σ a b z σ1) : XI (sw σ1) := (J_mid (σ1 := σ1) h (fun K hK => (by rw [FR_slitOrder A]))).2.2.1
theorem JP_lost {σ σ1 τ2 : oMem} {a b : Int} {z y : Int} (h : J σ) (A : L5_lost σ a b z σ1) (B : L5_lost (sw σ1) a b y τ2) : y = z ∧ J (sw τ2) := by
  have m := J_mid (σ1 := σ1) h (fun K hK => (by rw [FR_lost A]))
  exact J_step (σ1 := σ1) (fun K hK => (by rw [FR_lost B])) (PR_lost m.1 m.2.1 m.2.2 A B)
theorem JX_lost {σ σ1 : oMem} {a b : Int} {z : Int} (h : J σ) (A : L5_lost σ a b z σ1) : XI (sw σ1) := (J_mid (σ1 := σ1) h (fun K hK => (by rw [FR_lost A]))).2.2.1
theorem JP_delivered {σ σ1 τ2 : oMem} {a : Int} {z y : Int} (h : J σ) (A : L5_delivered σ a z σ1) (B : L5_delivered (sw σ1) a y τ2) : y = z ∧ J (sw τ2) := by
  have m := J_mid (σ1 := σ1) h (fun K hK => (by rw [FR_delivered A]))
  exact J_step (σ1 := σ1) (fun K hK => (by rw [FR_delivered B])) (PR_delivered m.1 m.2.1 m.2.2 A B)
theorem JX_delivered {σ σ1 : oMem} {a : Int} {z : Int} (h : J σ) (A : L5_delivered σ a z σ1) : XI (sw σ1) := (J_mid (σ1 := σ1) h (fun K hK => (by rw [FR_delivered A]))).2.2.1
theorem JK_delivered {σ σ1 τ2 : oMem} {a : Int} {z y : Int} (A : L5_delivered σ a z σ1) (B : L5_delivered (sw σ1) a y τ2) : (sw τ2) 0 = σ 0 ∧ (sw τ2) 7 = σ 7 := ⟨by rw [J_lo (σ1 := σ1) (τ2 := τ2) (fun K hK => (by rw [FR_delivered B])) 0 (by decide), FR_delivered A], by rw [J_lo (σ1 := σ1) (τ2 := τ2) (fun K hK => (by rw [FR_delivered B])) 7 (by decide), FR_delivered A]⟩
theorem JP_draftSlits {σ σ1 τ2 : oMem} {z y : Int} (h : J σ) (A : P5_draftSlits σ z σ1) (B : P5_draftSlits (sw σ1) y τ2) : y = z ∧ J (sw τ2) := by
  have m := J_mid (σ1 := σ1) h (fun K hK => (by rw [A.2]))
  exact J_step (σ1 := σ1) (fun K hK => (by rw [B.2])) (PR_draftSlits m.1 m.2.1 m.2.2 A B)
theorem JX_draftSlits {σ σ1 : oMem} {z : Int} (h : J σ) (A : P5_draftSlits σ z σ1) : XI (sw σ1) := (J_mid (σ1 := σ1) h (fun K hK => (by rw [A.2]))).2.2.1
theorem JP_moved {σ σ1 τ2 : oMem} {z y : Int} (h : J σ) (A : P5_moved σ z σ1) (B : P5_moved (sw σ1) y τ2) : y = z ∧ J (sw τ2) := by
  have m := J_mid (σ1 := σ1) h (fun K hK => (by rw [A.2]))
  exact J_step (σ1 := σ1) (fun K hK => (by rw [B.2])) (PR_moved m.1 m.2.1 m.2.2 A B)
theorem JX_moved {σ σ1 : oMem} {z : Int} (h : J σ) (A : P5_moved σ z σ1) : XI (sw σ1) := (J_mid (σ1 := σ1) h (fun K hK => (by rw [A.2]))).2.2.1
theorem JP_waiting {σ σ1 τ2 : oMem} {z y : Int} (h : J σ) (A : P5_waiting σ z σ1) (B : P5_waiting (sw σ1) y τ2) : y = z ∧ J (sw τ2) := by
  have m := J_mid (σ1 := σ1) h (fun K hK => (by rw [A.2]))
  exact J_step (σ1 := σ1) (fun K hK => (by rw [B.2])) (PR_waiting m.1 m.2.1 m.2.2 A B)
theorem JX_waiting {σ σ1 : oMem} {z : Int} (h : J σ) (A : P5_waiting σ z σ1) : XI (sw σ1) := (J_mid (σ1 := σ1) h (fun K hK => (by rw [A.2]))).2.2.1
theorem JP_fewestMoves {σ σ1 τ2 : oMem} {z y : Int} (h : J σ) (A : P5_fewestMoves σ z σ1) (B : P5_fewestMoves (sw σ1) y τ2) : y = z ∧ J (sw τ2) := by
  have m := J_mid (σ1 := σ1) h (fun K hK => (A.2.2 K (by omega) (by omega)))
  exact J_step (σ1 := σ1) (fun K hK => (B.2.2 K (by omega) (by omega))) (PR_fewestMoves m.1 m.2.1 m.2.2 A B)
theorem JX_fewestMoves {σ σ1 : oMem} {z : Int} (h : J σ) (A : P5_fewestMoves σ z σ1) : XI (sw σ1) := (J_mid (σ1 := σ1) h (fun K hK => (A.2.2 K (by omega) (by omega)))).2.2.1
theorem JP_stock {σ σ1 τ2 : oMem} {a : Int} {z y : Int} (h : J σ) (A : P5_stock σ a z σ1) (B : P5_stock (sw σ1) a y τ2) : y = z ∧ J (sw τ2) := by
  have m := J_mid (σ1 := σ1) h (fun K hK => (by rw [A.2]))
  exact J_step (σ1 := σ1) (fun K hK => (by rw [B.2])) (PR_stock m.1 m.2.1 m.2.2 A B)
theorem JX_stock {σ σ1 : oMem} {a : Int} {z : Int} (h : J σ) (A : P5_stock σ a z σ1) : XI (sw σ1) := (J_mid (σ1 := σ1) h (fun K hK => (by rw [A.2]))).2.2.1
theorem JP_runAll {σ σ1 τ2 : oMem} {z y : Int} (h : J σ) (A : P5_runAll σ z σ1) (B : P5_runAll (sw σ1) y τ2) : y = z ∧ J (sw τ2) := by
  have m := J_mid (σ1 := σ1) h (fun K hK => (FR_runAll A K hK))
  exact J_step (σ1 := σ1) (fun K hK => (FR_runAll B K hK)) (PR_runAll m.1 m.2.1 m.2.2 A B)
theorem JX_runAll {σ σ1 : oMem} {z : Int} (h : J σ) (A : P5_runAll σ z σ1) : XI (sw σ1) := (J_mid (σ1 := σ1) h (fun K hK => (FR_runAll A K hK))).2.2.1
theorem heat_in {σ σ1 : oMem} {a z : Int} (h : QI σ) (A : L5_heatOf σ a z σ1) : InR z := by
  rcases A with ⟨n, A⟩ | ⟨-, h2, -⟩
  · unfold N5_heatOf at n
    have hO := (h.1.2.2.2.2.2.2.2.1 a.toNat (by omega)).2.2.2
    have e := A.1
    omega
  · omega
theorem wait_in {σ σ1 : oMem} {z : Int} (h : QI σ) (A : P5_waiting σ z σ1) : InR z := by
  have e := A.1
  have q := h.1.2.2.2.2.2.1
  omega
theorem c_L_drawn {l : Launch} {g : oG} {σ : oMem} {b L jn : Nat} {xs : Nat → Int32} (hj : jn < 55) (hL : L ≤ 260) : oGi (oFS g b L xs) l g yL_drawn (.code yL_drawn cL_drawn 3 (some .int)) 1 0 [.ref b, oi (jn : Int)] σ (fun z σ' => (0 ≤ z ∧ z ≤ 2147483647) ∧ σ' = σ) := by
  refine oGS_of (own := RL) (by decide +kernel) rfl (by simp [oi, Value.category]) (by simp) (fun x C S E => ?_)
  show oW l g x σ 0 [some (.ref b), some (oi (jn : Int)), none] [] 0
  have T : ∀ v : Int, oW l g x σ 21 [some (.ref b), some (oi (jn : Int)), none] [oi v] 0 := by
    intro v
    refine sti_2 (pc := 21) C dL_drawn_21 ?_
    refine o_iload_n (pc := 22) C dL_drawn_22 rfl ?_
    refine o_ldcI (n := 2147483647) (pc := 23) C dL_drawn_23 kw_6_15 ?_
    obtain ⟨n, n0, n1, e⟩ := x_max (Int32.ofInt v)
    refine o_iand (v := n) (pc := 25) C dL_drawn_25 e ?_
    exact E _ _ _ _ _ dL_drawn_26 rfl ⟨⟨n0, n1⟩, rfl⟩ (by omega)
  refine o_iload_n (pc := 0) C dL_drawn_0 rfl ?_
  refine o_aload_n (pc := 1) C dL_drawn_1 rfl ?_
  refine o_slen (pc := 2) S C dL_drawn_2 ?_
  refine o_icmp_ge (pc := 3) C (tgt := 12) dL_drawn_3 (by decide) (by omega) (by omega) (fun _ => ?_) (fun h3 => ?_)
  · refine o_sipush (pc := 12) C dL_drawn_12 rfl ?_
    refine o_iload_n (pc := 15) C dL_drawn_15 rfl ?_
    refine o_imul (pc := 16) C dL_drawn_16 ?_
    refine o_sipush (pc := 17) C dL_drawn_17 rfl ?_
    refine o_iadd (pc := 20) C dL_drawn_20 ?_
    exact T _
  · refine o_aload_n (pc := 6) C dL_drawn_6 rfl ?_
    refine o_iload_n (pc := 7) C dL_drawn_7 rfl ?_
    refine o_sld (pc := 8) (j := jn) S C rfl (by omega) (by omega) dL_drawn_8 ?_
    refine o_goto (pc := 9) C (tgt := 21) dL_drawn_9 (by decide) ?_
    exact T _
set_option maxRecDepth 100000 in
set_option maxHeartbeats 2000000 in
theorem c_L_areAlike {l : Launch} {g : oG} {σ : oMem} {co wd : Int} (hfl : l.stackTraces = false) (hJ : J σ) (hc : InR co) (hw : InR wd) : oGi oFN l g yL_areAlike (.code yL_areAlike cL_areAlike 7 (some .boolean)) 14 200 [.ref (g.2.1 0 0), .ref (g.2.1 24 0), oi co, oi wd] σ (fun z σ' => z = 1 ∧ J σ') := by
  refine oGN_of (own := RL) (by decide +kernel) rfl (by simp [oi, Value.category]) (by simp) (fun x C hN E => ?_)
  show oW l g x σ 0 [some (.ref (g.2.1 0 0)), some (.ref (g.2.1 24 0)), some (oi co), some (oi wd), none, none, none] [] 0
  have Lp : ∀ (n kn : Nat) (μ : oMem) (k : Nat) (r : Option Value), kn + n = 6 → J μ → k ≤ 2 + 22 * kn → oW l g x μ 82 [some (.ref (g.2.1 0 0)), some (.ref (g.2.1 24 0)), some (oi co), some (oi wd), some (oi 1), some (oi (kn : Int)), r] [] k := by
    intro n
    induction n with
    | zero =>
      intro kn μ k r a1 h a3
      refine o_iload (pc := 82) C dL_areAlike_82 rfl ?_
      refine o_bipush (pc := 84) C dL_areAlike_84 rfl ?_
      refine o_icmp_ge (pc := 86) C (tgt := 282) dL_areAlike_86 (by decide) (by omega) (by omega) (fun _ => ?_) (fun q => by omega)
      refine o_iload (pc := 282) C dL_areAlike_282 rfl ?_
      exact E _ _ _ _ _ dL_areAlike_284 rfl ⟨rfl, h⟩ (by omega)
    | succ n ih =>
      intro kn μ k r a1 h a3
      have hk : InR (kn : Int) := by omega
      refine o_iload (pc := 82) C dL_areAlike_82 rfl ?_
      refine o_bipush (pc := 84) C dL_areAlike_84 rfl ?_
      refine o_icmp_ge (pc := 86) C (tgt := 282) dL_areAlike_86 (by decide) (by omega) (by omega) (fun q => by omega) (fun _ => ?_)
      refine o_iload (pc := 89) C dL_areAlike_89 rfl ?_
      refine o_if_eq (pc := 91) C (tgt := 282) dL_areAlike_91 (by decide) (by decide) (fun q => absurd q (by decide)) (fun _ => ?_)
      refine o_aload_n (pc := 94) C dL_areAlike_94 rfl ?_
      refine o_bipush (pc := 95) C dL_areAlike_95 rfl ?_
      refine o_iload (pc := 97) C dL_areAlike_97 rfl ?_
      refine o_callSXh (pc := 99) (n := 3) (As := [.ref (g.2.1 0 0), oi 7, oi ((kn : Int))]) (rest := []) hN C (c_L_of_7 hfl h.2.1.1 (by omega)) kw_8_13 kw_8_14 kw_4_14 kw_8_15 (by decide +kernel) (by decide) (by omega) (by omega) rfl (Nat.le_of_ble_eq_true rfl) dL_areAlike_99 (fun z1 s1 A1 => ?_)
      have hz := heat_in h.2.1 A1
      have es := FR_heatOf A1
      rw [es]
      refine sti_6 (pc := 102) C dL_areAlike_102 ?_
      refine o_aload_n (pc := 104) C dL_areAlike_104 rfl ?_
      refine o_iconst (pc := 105) C dL_areAlike_105 ?_
      refine o_iload (pc := 106) C dL_areAlike_106 rfl ?_
      refine o_callSXh (pc := 108) (n := 3) (As := [.ref (g.2.1 0 0), oi 4, oi ((kn : Int))]) (rest := []) hN C (c_L_of_4 hfl h.2.1.1 (by omega)) kw_8_13 kw_8_14 kw_4_14 kw_8_15 (by decide +kernel) (by decide) (by omega) (by omega) rfl (Nat.le_of_ble_eq_true rfl) dL_areAlike_108 (fun z2 s2 A2 => ?_)
      refine o_aload_n (pc := 111) C dL_areAlike_111 rfl ?_
      refine o_iconst (pc := 112) C dL_areAlike_112 ?_
      refine o_iload (pc := 113) C dL_areAlike_113 rfl ?_
      refine oW_sw ?_
      refine o_callSXh (g := swg g) (pc := 115) (n := 3) (As := [.ref ((swg g).2.1 0 0), oi 4, oi ((kn : Int))]) (rest := [oi z2]) hN C.sw (c_L_of_4 hfl (JX_delivered h A2) (by omega)) kw_8_13 kw_8_14 kw_4_14 kw_8_15 (by decide +kernel) (by decide) (by omega) (by omega) rfl (Nat.le_of_ble_eq_true rfl) dL_areAlike_115 (fun y3 t3 B3 => oW_ws ?_)
      obtain ⟨e3, h3⟩ := JP_delivered h A2 B3
      have f3 := JK_delivered A2 B3
      subst e3
      refine o_ne_same (pc := 118) C (tgt := 204) dL_areAlike_118 (by decide) ?_
      refine o_aload_n (pc := 121) C dL_areAlike_121 rfl ?_
      refine o_iconst (pc := 122) C dL_areAlike_122 ?_
      refine o_iload (pc := 123) C dL_areAlike_123 rfl ?_
      refine o_callSXh (pc := 125) (n := 3) (As := [.ref (g.2.1 0 0), oi 5, oi ((kn : Int))]) (rest := []) hN C (c_L_of_5 hfl h3.2.1.1 (by omega)) kw_8_13 kw_8_14 kw_4_14 kw_8_15 (by decide +kernel) (by decide) (by omega) (by omega) rfl (Nat.le_of_ble_eq_true rfl) dL_areAlike_125 (fun z4 s4 A4 => ?_)
      refine o_aload_n (pc := 128) C dL_areAlike_128 rfl ?_
      refine o_iconst (pc := 129) C dL_areAlike_129 ?_
      refine o_iload (pc := 130) C dL_areAlike_130 rfl ?_
      refine oW_sw ?_
      refine o_callSXh (g := swg g) (pc := 132) (n := 3) (As := [.ref ((swg g).2.1 0 0), oi 5, oi ((kn : Int))]) (rest := [oi z4]) hN C.sw (c_L_of_5 hfl (JX_nextAt h3 A4) (by omega)) kw_8_13 kw_8_14 kw_4_14 kw_8_15 (by decide +kernel) (by decide) (by omega) (by omega) rfl (Nat.le_of_ble_eq_true rfl) dL_areAlike_132 (fun y5 t5 B5 => oW_ws ?_)
      obtain ⟨e5, h5⟩ := JP_nextAt h3 A4 B5
      have f5 := JK_nextAt A4 B5
      subst e5
      refine o_ne_same (pc := 135) C (tgt := 204) dL_areAlike_135 (by decide) ?_
      refine o_aload_n (pc := 138) C dL_areAlike_138 rfl ?_
      refine o_bipush (pc := 139) C dL_areAlike_139 rfl ?_
      refine o_iload (pc := 141) C dL_areAlike_141 rfl ?_
      refine o_callSXh (pc := 143) (n := 3) (As := [.ref (g.2.1 0 0), oi 6, oi ((kn : Int))]) (rest := []) hN C (c_L_of_6 hfl h5.2.1.1 (by omega)) kw_8_13 kw_8_14 kw_4_14 kw_8_15 (by decide +kernel) (by decide) (by omega) (by omega) rfl (Nat.le_of_ble_eq_true rfl) dL_areAlike_143 (fun z6 s6 A6 => ?_)
      refine o_aload_n (pc := 146) C dL_areAlike_146 rfl ?_
      refine o_bipush (pc := 147) C dL_areAlike_147 rfl ?_
      refine o_iload (pc := 149) C dL_areAlike_149 rfl ?_
      refine oW_sw ?_
      refine o_callSXh (g := swg g) (pc := 151) (n := 3) (As := [.ref ((swg g).2.1 0 0), oi 6, oi ((kn : Int))]) (rest := [oi z6]) hN C.sw (c_L_of_6 hfl (JX_draftWidth h5 A6) (by omega)) kw_8_13 kw_8_14 kw_4_14 kw_8_15 (by decide +kernel) (by decide) (by omega) (by omega) rfl (Nat.le_of_ble_eq_true rfl) dL_areAlike_151 (fun y7 t7 B7 => oW_ws ?_)
      obtain ⟨e7, h7⟩ := JP_draftWidth h5 A6 B7
      have f7 := JK_draftWidth A6 B7
      subst e7
      refine o_ne_same (pc := 154) C (tgt := 204) dL_areAlike_154 (by decide) ?_
      refine o_aload_n (pc := 157) C dL_areAlike_157 rfl ?_
      refine o_iconst (pc := 158) C dL_areAlike_158 ?_
      refine o_iload (pc := 159) C dL_areAlike_159 rfl ?_
      refine o_callSXh (pc := 161) (n := 3) (As := [.ref (g.2.1 0 0), oi 3, oi ((kn : Int))]) (rest := []) hN C (c_L_of_3 hfl h7.2.1.1 (by omega)) kw_8_13 kw_8_14 kw_4_14 kw_8_15 (by decide +kernel) (by decide) (by omega) (by omega) rfl (Nat.le_of_ble_eq_true rfl) dL_areAlike_161 (fun z8 s8 A8 => ?_)
      refine o_aload_n (pc := 164) C dL_areAlike_164 rfl ?_
      refine o_iconst (pc := 165) C dL_areAlike_165 ?_
      refine o_iload (pc := 166) C dL_areAlike_166 rfl ?_
      refine oW_sw ?_
      refine o_callSXh (g := swg g) (pc := 168) (n := 3) (As := [.ref ((swg g).2.1 0 0), oi 3, oi ((kn : Int))]) (rest := [oi z8]) hN C.sw (c_L_of_3 hfl (JX_moves h7 A8) (by omega)) kw_8_13 kw_8_14 kw_4_14 kw_8_15 (by decide +kernel) (by decide) (by omega) (by omega) rfl (Nat.le_of_ble_eq_true rfl) dL_areAlike_168 (fun y9 t9 B9 => oW_ws ?_)
      obtain ⟨e9, h9⟩ := JP_moves h7 A8 B9
      have f9 := JK_moves A8 B9
      subst e9
      refine o_ne_same (pc := 171) C (tgt := 204) dL_areAlike_171 (by decide) ?_
      refine o_aload_n (pc := 174) C dL_areAlike_174 rfl ?_
      refine o_bipush (pc := 175) C dL_areAlike_175 rfl ?_
      refine o_iload (pc := 177) C dL_areAlike_177 rfl ?_
      refine oW_sw ?_
      refine o_callSXh (g := swg g) (pc := 179) (n := 3) (As := [.ref ((swg g).2.1 0 0), oi 7, oi ((kn : Int))]) (rest := []) hN C.sw (c_L_of_7 hfl h9.2.2.1 (by omega)) kw_8_13 kw_8_14 kw_4_14 kw_8_15 (by decide +kernel) (by decide) (by omega) (by omega) rfl (Nat.le_of_ble_eq_true rfl) dL_areAlike_179 (fun y10 t10 B10 => oW_ws ?_)
      obtain ⟨eh, et⟩ := PR_heatOf h9.1 (f9.1.trans (f7.1.trans (f5.1.trans f3.1))) (f9.2.trans (f7.2.trans (f5.2.trans f3.2))) A1 B10
      rw [et, sw_sw]
      have M : ∀ (v4 : Option Value) (k2 : Nat), k2 ≤ k + 10 → oW l g x (sw t9) 200 [some (.ref (g.2.1 0 0)), some (.ref (g.2.1 24 0)), some (oi co), some (oi wd), v4, some (oi (kn : Int)), some (oi z1)] [] k2 := by
        intro v4 k2 b1
        refine o_iconst (pc := 200) C dL_areAlike_200 ?_
        refine o_goto (pc := 201) C (tgt := 205) dL_areAlike_201 (by decide) ?_
        refine sti_4 (pc := 205) C dL_areAlike_205 ?_
        refine o_iload (pc := 207) C dL_areAlike_207 rfl ?_
        refine o_if_eq (pc := 209) C (tgt := 273) dL_areAlike_209 (by decide) (by decide) (fun q => absurd q (by decide)) (fun _ => ?_)
        refine o_aload_n (pc := 212) C dL_areAlike_212 rfl ?_
        refine o_iconst (pc := 213) C dL_areAlike_213 ?_
        refine o_iload_n (pc := 214) C dL_areAlike_214 rfl ?_
        refine o_iload (pc := 215) C dL_areAlike_215 rfl ?_
        refine o_callSXh (pc := 217) (n := 4) (As := [.ref (g.2.1 0 0), oi 0, oi (co), oi ((kn : Int))]) (rest := []) hN C (c_L_at_0 hfl h9.2.1.1 (by omega) (by omega)) kw_17_15 kw_17_16 kw_4_14 kw_17_17 (by decide +kernel) (by decide) (by omega) (by omega) rfl (Nat.le_of_ble_eq_true rfl) dL_areAlike_217 (fun z61 s61 A61 => ?_)
        refine o_aload_n (pc := 220) C dL_areAlike_220 rfl ?_
        refine o_iconst (pc := 221) C dL_areAlike_221 ?_
        refine o_iload_n (pc := 222) C dL_areAlike_222 rfl ?_
        refine o_iload (pc := 223) C dL_areAlike_223 rfl ?_
        refine oW_sw ?_
        refine o_callSXh (g := swg g) (pc := 225) (n := 4) (As := [.ref ((swg g).2.1 0 0), oi 0, oi (co), oi ((kn : Int))]) (rest := [oi z61]) hN C.sw (c_L_at_0 hfl (JX_slitWeight h9 A61) (by omega) (by omega)) kw_17_15 kw_17_16 kw_4_14 kw_17_17 (by decide +kernel) (by decide) (by omega) (by omega) rfl (Nat.le_of_ble_eq_true rfl) dL_areAlike_225 (fun y62 t62 B62 => oW_ws ?_)
        obtain ⟨e62, h62⟩ := JP_slitWeight h9 A61 B62
        subst e62
        refine o_ne_same (pc := 228) C (tgt := 273) dL_areAlike_228 (by decide) ?_
        refine o_aload_n (pc := 231) C dL_areAlike_231 rfl ?_
        refine o_iconst (pc := 232) C dL_areAlike_232 ?_
        refine o_iload_n (pc := 233) C dL_areAlike_233 rfl ?_
        refine o_iload (pc := 234) C dL_areAlike_234 rfl ?_
        refine o_callSXh (pc := 236) (n := 4) (As := [.ref (g.2.1 0 0), oi 1, oi (co), oi ((kn : Int))]) (rest := []) hN C (c_L_at_1 hfl h62.2.1.1 (by omega) (by omega)) kw_17_15 kw_17_16 kw_4_14 kw_17_17 (by decide +kernel) (by decide) (by omega) (by omega) rfl (Nat.le_of_ble_eq_true rfl) dL_areAlike_236 (fun z63 s63 A63 => ?_)
        refine o_aload_n (pc := 239) C dL_areAlike_239 rfl ?_
        refine o_iconst (pc := 240) C dL_areAlike_240 ?_
        refine o_iload_n (pc := 241) C dL_areAlike_241 rfl ?_
        refine o_iload (pc := 242) C dL_areAlike_242 rfl ?_
        refine oW_sw ?_
        refine o_callSXh (g := swg g) (pc := 244) (n := 4) (As := [.ref ((swg g).2.1 0 0), oi 1, oi (co), oi ((kn : Int))]) (rest := [oi z63]) hN C.sw (c_L_at_1 hfl (JX_slitOrder h62 A63) (by omega) (by omega)) kw_17_15 kw_17_16 kw_4_14 kw_17_17 (by decide +kernel) (by decide) (by omega) (by omega) rfl (Nat.le_of_ble_eq_true rfl) dL_areAlike_244 (fun y64 t64 B64 => oW_ws ?_)
        obtain ⟨e64, h64⟩ := JP_slitOrder h62 A63 B64
        subst e64
        refine o_ne_same (pc := 247) C (tgt := 273) dL_areAlike_247 (by decide) ?_
        refine o_aload_n (pc := 250) C dL_areAlike_250 rfl ?_
        refine o_iconst (pc := 251) C dL_areAlike_251 ?_
        refine o_iload_n (pc := 252) C dL_areAlike_252 rfl ?_
        refine o_iload (pc := 253) C dL_areAlike_253 rfl ?_
        refine o_callSXh (pc := 255) (n := 4) (As := [.ref (g.2.1 0 0), oi 2, oi (co), oi ((kn : Int))]) (rest := []) hN C (c_L_at_2 hfl h64.2.1.1 (by omega) (by omega)) kw_17_15 kw_17_16 kw_4_14 kw_17_17 (by decide +kernel) (by decide) (by omega) (by omega) rfl (Nat.le_of_ble_eq_true rfl) dL_areAlike_255 (fun z65 s65 A65 => ?_)
        refine o_aload_n (pc := 258) C dL_areAlike_258 rfl ?_
        refine o_iconst (pc := 259) C dL_areAlike_259 ?_
        refine o_iload_n (pc := 260) C dL_areAlike_260 rfl ?_
        refine o_iload (pc := 261) C dL_areAlike_261 rfl ?_
        refine oW_sw ?_
        refine o_callSXh (g := swg g) (pc := 263) (n := 4) (As := [.ref ((swg g).2.1 0 0), oi 2, oi (co), oi ((kn : Int))]) (rest := [oi z65]) hN C.sw (c_L_at_2 hfl (JX_lost h64 A65) (by omega) (by omega)) kw_17_15 kw_17_16 kw_4_14 kw_17_17 (by decide +kernel) (by decide) (by omega) (by omega) rfl (Nat.le_of_ble_eq_true rfl) dL_areAlike_263 (fun y66 t66 B66 => oW_ws ?_)
        obtain ⟨e66, h66⟩ := JP_lost h64 A65 B66
        subst e66
        refine o_ne_same (pc := 266) C (tgt := 273) dL_areAlike_266 (by decide) ?_
        refine o_iconst (pc := 269) C dL_areAlike_269 ?_
        refine o_goto (pc := 270) C (tgt := 274) dL_areAlike_270 (by decide) ?_
        refine sti_4 (pc := 274) C dL_areAlike_274 ?_
        refine inc_5 (pc := 276) C dL_areAlike_276 ?_
        refine o_goto (pc := 279) C (tgt := 82) dL_areAlike_279 (by decide) ?_
        exact ih (kn + 1) _ _ _ (by omega) h66 (by omega)
      refine o_iload (pc := 182) C dL_areAlike_182 rfl ?_
      refine o_if_le (pc := 184) C (tgt := 195) dL_areAlike_184 (by decide) hz (fun q => ?_) (fun q => ?_)
      · refine o_iload (pc := 195) C dL_areAlike_195 rfl ?_
        obtain rfl : y10 = z1 := by rw [eh]; unfold hf; rw [if_neg (by omega)]
        refine o_ne_same (pc := 197) C (tgt := 204) dL_areAlike_197 (by decide) ?_
        exact M _ _ (by omega)
      · refine o_bipush (pc := 187) C dL_areAlike_187 rfl ?_
        refine o_iload (pc := 189) C dL_areAlike_189 rfl ?_
        refine o_isub (pc := 191) C dL_areAlike_191 ?_
        refine o_goto (pc := 192) C (tgt := 197) dL_areAlike_192 (by decide) ?_
        obtain rfl : y10 = 100 - z1 := by rw [eh]; unfold hf; rw [if_pos q]
        refine o_ne_same (pc := 197) C (tgt := 204) dL_areAlike_197 (by decide) ?_
        exact M _ _ (by omega)
  refine o_aload_n (pc := 0) C dL_areAlike_0 rfl ?_
  refine o_callVi (pc := 1) (n := 0) (As := []) (K := 0) (i := 0) (rest := []) C (c_X5_draftSlits hJ.2.1.1) kw_16_20 kw_16_21 kw_16_22 kw_1_2 kw_16_23 (by decide) ⟨_, _, _, rfl, rfl, rfl⟩ (by decide +kernel) (by decide) (by omega) (by omega) rfl (Nat.le_of_ble_eq_true rfl) dL_areAlike_1 (fun z1 s1 A1 => ?_)
  refine o_aload_n (pc := 4) C dL_areAlike_4 rfl ?_
  refine oW_sw ?_
  refine o_callVi (g := swg g) (pc := 5) (n := 0) (As := []) (K := 0) (i := 0) (rest := [oi z1]) C.sw (c_X5_draftSlits (JX_draftSlits hJ A1)) kw_16_20 kw_16_21 kw_16_22 kw_1_2 kw_16_23 (by decide) ⟨_, _, _, rfl, rfl, rfl⟩ (by decide +kernel) (by decide) (by omega) (by omega) rfl (Nat.le_of_ble_eq_true rfl) dL_areAlike_5 (fun y2 t2 B2 => oW_ws ?_)
  obtain ⟨e2, h2⟩ := JP_draftSlits hJ A1 B2
  subst e2
  refine o_ne_same (pc := 8) C (tgt := 76) dL_areAlike_8 (by decide) ?_
  refine o_aload_n (pc := 11) C dL_areAlike_11 rfl ?_
  refine o_callVi (pc := 12) (n := 0) (As := []) (K := 0) (i := 0) (rest := []) C (c_X5_moved) kw_17_0 kw_17_1 kw_17_2 kw_1_2 kw_17_3 (by decide) ⟨_, _, _, rfl, rfl, rfl⟩ (by decide +kernel) (by decide) (by omega) (by omega) rfl (Nat.le_of_ble_eq_true rfl) dL_areAlike_12 (fun z3 s3 A3 => ?_)
  refine o_aload_n (pc := 15) C dL_areAlike_15 rfl ?_
  refine oW_sw ?_
  refine o_callVi (g := swg g) (pc := 16) (n := 0) (As := []) (K := 0) (i := 0) (rest := [oi z3]) C.sw (c_X5_moved) kw_17_0 kw_17_1 kw_17_2 kw_1_2 kw_17_3 (by decide) ⟨_, _, _, rfl, rfl, rfl⟩ (by decide +kernel) (by decide) (by omega) (by omega) rfl (Nat.le_of_ble_eq_true rfl) dL_areAlike_16 (fun y4 t4 B4 => oW_ws ?_)
  obtain ⟨e4, h4⟩ := JP_moved h2 A3 B4
  subst e4
  refine o_ne_same (pc := 19) C (tgt := 76) dL_areAlike_19 (by decide) ?_
  refine o_aload_n (pc := 22) C dL_areAlike_22 rfl ?_
  refine o_callVi (pc := 23) (n := 0) (As := []) (K := 0) (i := 0) (rest := []) C (c_X5_waiting) kw_16_9 kw_16_10 kw_16_11 kw_1_2 kw_16_12 (by decide) ⟨_, _, _, rfl, rfl, rfl⟩ (by decide +kernel) (by decide) (by omega) (by omega) rfl (Nat.le_of_ble_eq_true rfl) dL_areAlike_23 (fun z5 s5 A5 => ?_)
  refine o_aload_n (pc := 26) C dL_areAlike_26 rfl ?_
  refine oW_sw ?_
  refine o_callVi (g := swg g) (pc := 27) (n := 0) (As := []) (K := 0) (i := 0) (rest := [oi z5]) C.sw (c_X5_waiting) kw_16_9 kw_16_10 kw_16_11 kw_1_2 kw_16_12 (by decide) ⟨_, _, _, rfl, rfl, rfl⟩ (by decide +kernel) (by decide) (by omega) (by omega) rfl (Nat.le_of_ble_eq_true rfl) dL_areAlike_27 (fun y6 t6 B6 => oW_ws ?_)
  obtain ⟨e6, h6⟩ := JP_waiting h4 A5 B6
  subst e6
  refine o_ne_same (pc := 30) C (tgt := 76) dL_areAlike_30 (by decide) ?_
  refine o_aload_n (pc := 33) C dL_areAlike_33 rfl ?_
  refine o_callVi (pc := 34) (n := 0) (As := []) (K := 0) (i := 0) (rest := []) C (c_X5_fewestMoves h6.2.1.1) kw_17_4 kw_17_5 kw_17_6 kw_1_2 kw_17_7 (by decide) ⟨_, _, _, rfl, rfl, rfl⟩ (by decide +kernel) (by decide) (by omega) (by omega) rfl (Nat.le_of_ble_eq_true rfl) dL_areAlike_34 (fun z7 s7 A7 => ?_)
  refine o_aload_n (pc := 37) C dL_areAlike_37 rfl ?_
  refine oW_sw ?_
  refine o_callVi (g := swg g) (pc := 38) (n := 0) (As := []) (K := 0) (i := 0) (rest := [oi z7]) C.sw (c_X5_fewestMoves (JX_fewestMoves h6 A7)) kw_17_4 kw_17_5 kw_17_6 kw_1_2 kw_17_7 (by decide) ⟨_, _, _, rfl, rfl, rfl⟩ (by decide +kernel) (by decide) (by omega) (by omega) rfl (Nat.le_of_ble_eq_true rfl) dL_areAlike_38 (fun y8 t8 B8 => oW_ws ?_)
  obtain ⟨e8, h8⟩ := JP_fewestMoves h6 A7 B8
  subst e8
  refine o_ne_same (pc := 41) C (tgt := 76) dL_areAlike_41 (by decide) ?_
  refine o_aload_n (pc := 44) C dL_areAlike_44 rfl ?_
  refine o_iload_n (pc := 45) C dL_areAlike_45 rfl ?_
  refine o_callVi (pc := 46) (n := 1) (As := [oi (wd)]) (K := 0) (i := 0) (rest := []) C (c_X5_stock h8.2.1.1 (by omega)) kw_17_8 kw_17_9 kw_17_10 kw_1_2 kw_17_11 (by decide) ⟨_, _, _, rfl, rfl, rfl⟩ (by decide +kernel) (by decide) (by omega) (by omega) rfl (Nat.le_of_ble_eq_true rfl) dL_areAlike_46 (fun z9 s9 A9 => ?_)
  refine o_aload_n (pc := 49) C dL_areAlike_49 rfl ?_
  refine o_iload_n (pc := 50) C dL_areAlike_50 rfl ?_
  refine oW_sw ?_
  refine o_callVi (g := swg g) (pc := 51) (n := 1) (As := [oi (wd)]) (K := 0) (i := 0) (rest := [oi z9]) C.sw (c_X5_stock (JX_stock h8 A9) (by omega)) kw_17_8 kw_17_9 kw_17_10 kw_1_2 kw_17_11 (by decide) ⟨_, _, _, rfl, rfl, rfl⟩ (by decide +kernel) (by decide) (by omega) (by omega) rfl (Nat.le_of_ble_eq_true rfl) dL_areAlike_51 (fun y10 t10 B10 => oW_ws ?_)
  obtain ⟨e10, h10⟩ := JP_stock h8 A9 B10
  subst e10
  refine o_ne_same (pc := 54) C (tgt := 76) dL_areAlike_54 (by decide) ?_
  refine o_aload_n (pc := 57) C dL_areAlike_57 rfl ?_
  refine o_iconst (pc := 58) C dL_areAlike_58 ?_
  refine o_iload_n (pc := 59) C dL_areAlike_59 rfl ?_
  refine o_callSXh (pc := 60) (n := 3) (As := [.ref (g.2.1 0 0), oi 2, oi (co)]) (rest := []) hN C (c_L_of_2 hfl h10.2.1.1 (by omega)) kw_8_13 kw_8_14 kw_4_14 kw_8_15 (by decide +kernel) (by decide) (by omega) (by omega) rfl (Nat.le_of_ble_eq_true rfl) dL_areAlike_60 (fun z11 s11 A11 => ?_)
  refine o_aload_n (pc := 63) C dL_areAlike_63 rfl ?_
  refine o_iconst (pc := 64) C dL_areAlike_64 ?_
  refine o_iload_n (pc := 65) C dL_areAlike_65 rfl ?_
  refine oW_sw ?_
  refine o_callSXh (g := swg g) (pc := 66) (n := 3) (As := [.ref ((swg g).2.1 0 0), oi 2, oi (co)]) (rest := [oi z11]) hN C.sw (c_L_of_2 hfl (JX_slits h10 A11) (by omega)) kw_8_13 kw_8_14 kw_4_14 kw_8_15 (by decide +kernel) (by decide) (by omega) (by omega) rfl (Nat.le_of_ble_eq_true rfl) dL_areAlike_66 (fun y12 t12 B12 => oW_ws ?_)
  obtain ⟨e12, h12⟩ := JP_slits h10 A11 B12
  subst e12
  refine o_ne_same (pc := 69) C (tgt := 76) dL_areAlike_69 (by decide) ?_
  refine o_iconst (pc := 72) C dL_areAlike_72 ?_
  refine o_goto (pc := 73) C (tgt := 77) dL_areAlike_73 (by decide) ?_
  refine sti_4 (pc := 77) C dL_areAlike_77 ?_
  refine o_iconst (pc := 79) C dL_areAlike_79 ?_
  refine sti_5 (pc := 80) C dL_areAlike_80 ?_
  exact Lp 6 0 _ _ _ rfl h12 (by omega)
