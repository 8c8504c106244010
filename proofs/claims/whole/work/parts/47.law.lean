def M6_coil (σ : oMem) (a b d e : Int) : Int → oMem → Prop := (fun z σ' => if ((100 ≤ a ∧ a ≤ 2000) ∧ (1 ≤ b ∧ b ≤ 30000) ∧ (10 ≤ d ∧ d ≤ 5000) ∧ (1 ≤ e ∧ e ≤ 99)) ∧ σ 24 0 4 < 20 then z = σ 24 0 4 ∧ σ' = o_up (o_up (o_up (o_up (o_up (o_up (o_up σ 24 0 31 0) 25 0 (σ 24 0 4).toNat a) 26 0 (σ 24 0 4).toNat b) 27 0 (σ 24 0 4).toNat d) 28 0 (σ 24 0 4).toNat e) 38 0 (σ 24 0 4).toNat (-1)) 24 0 4 (σ 24 0 4 + 1) else σ' = o_up σ 24 0 31 (if ((100 ≤ a ∧ a ≤ 2000) ∧ (1 ≤ b ∧ b ≤ 30000) ∧ (10 ≤ d ∧ d ≤ 5000) ∧ (1 ≤ e ∧ e ≤ 99)) then (if σ 24 0 4 < 20 then 0 else 2) else 1))
theorem cm_X6_coil {l : Launch} {g : oG} {σ : oMem} {a b d e : Int} (hM : MI σ) (h1 : InR a) (h2 : InR b) (h3 : InR d) (h4 : InR e) : oMi l g yX6_coil (.code yX6_coil cX6_coil 6 (some .int)) 3 0 [.ref (g.2.1 24 0), oi a, oi b, oi d, oi e] σ (M6_coil σ a b d e) := by
  obtain ⟨y1, y3, y5, ⟨y7, y8, y9⟩, y10, y14, yC, yO, yP, yD, yW⟩ := id hM
  exact c_X6_coil y1 h1 h2 h3 h4
def M6_defect (σ : oMem) (a b d : Int) : Int → oMem → Prop := (fun z σ' => if (mkC σ a) ∧ (mkC σ a ∧ (0 ≤ b ∧ b ≤ σ 27 0 a.toNat - 1) ∧ (b + 1 ≤ d ∧ d ≤ σ 27 0 a.toNat)) ∧ (mkC σ a ∧ σ 38 0 a.toNat = -1 ∧ σ 31 0 a.toNat < 8) then σ' = o_up (o_up (o_up (o_up σ 24 0 31 0) 29 0 (8 * a.toNat + (σ 31 0 a.toNat).toNat) b) 30 0 (8 * a.toNat + (σ 31 0 a.toNat).toNat) d) 31 0 a.toNat (σ 31 0 a.toNat + 1) ∧ z = mCut σ' a.toNat else σ' = o_up σ 24 0 31 (if (mkC σ a) then (if (mkC σ a ∧ (0 ≤ b ∧ b ≤ σ 27 0 a.toNat - 1) ∧ (b + 1 ≤ d ∧ d ≤ σ 27 0 a.toNat)) then (if (mkC σ a ∧ σ 38 0 a.toNat = -1 ∧ σ 31 0 a.toNat < 8) then 0 else 3) else 2) else 1))
theorem cm_X6_defect {l : Launch} {g : oG} {σ : oMem} {a b d : Int} (hM : MI σ) (h1 : InR a) (h2 : InR b) (h3 : InR d) : oMi l g yX6_defect (.code yX6_defect cX6_defect 6 (some .int)) 3 0 [.ref (g.2.1 24 0), oi a, oi b, oi d] σ (M6_defect σ a b d) := by
  obtain ⟨y1, y3, y5, ⟨y7, y8, y9⟩, y10, y14, yC, yO, yP, yD, yW⟩ := id hM
  exact c_X6_defect y1 (fun c hc => by have q := (yC c hc).1; have q2 := (yC c hc).2.1; exact ⟨q.2.2.1, by omega, q.2.2.2.2⟩) h1 h2 h3
def M6_setRules (σ : oMem) (a b d : Int) : Int → oMem → Prop := (fun z σ' => if ((0 ≤ a ∧ a ≤ 100) ∧ (0 ≤ b ∧ b ≤ 500) ∧ (2 ≤ d ∧ d ≤ 16)) then z = σ 24 0 8 ∧ σ' = o_up (o_up (o_up (o_up σ 24 0 31 0) 24 0 8 a) 24 0 9 b) 24 0 10 d else σ' = o_up σ 24 0 31 1)
theorem cm_X6_setRules {l : Launch} {g : oG} {σ : oMem} {a b d : Int} (hM : MI σ) (h1 : InR a) (h2 : InR b) (h3 : InR d) : oMi l g yX6_setRules (.code yX6_setRules cX6_setRules 5 (some .int)) 3 0 [.ref (g.2.1 24 0), oi a, oi b, oi d] σ (M6_setRules σ a b d) := by
  obtain ⟨y1, y3, y5, ⟨y7, y8, y9⟩, y10, y14, yC, yO, yP, yD, yW⟩ := id hM
  exact c_X6_setRules  h1 h2 h3
def M6_order (σ : oMem) (a b : Int) : Int → oMem → Prop := (fun z σ' => if ((20 ≤ a ∧ a ≤ 1000) ∧ (1 ≤ b ∧ b ≤ 50000)) ∧ σ 24 0 15 < 12 then z = σ 24 0 15 ∧ σ' = o_up (o_up (o_up (o_up (o_up σ 24 0 31 0) 32 0 (σ 24 0 15).toNat a) 33 0 (σ 24 0 15).toNat b) 35 0 (σ 24 0 15).toNat (-1)) 24 0 15 (σ 24 0 15 + 1) else σ' = o_up σ 24 0 31 (if ((20 ≤ a ∧ a ≤ 1000) ∧ (1 ≤ b ∧ b ≤ 50000)) then (if σ 24 0 15 < 12 then 0 else 2) else 1))
theorem cm_X6_order {l : Launch} {g : oG} {σ : oMem} {a b : Int} (hM : MI σ) (h1 : InR a) (h2 : InR b) : oMi l g yX6_order (.code yX6_order cX6_order 3 (some .int)) 3 0 [.ref (g.2.1 24 0), oi a, oi b] σ (M6_order σ a b) := by
  obtain ⟨y1, y3, y5, ⟨y7, y8, y9⟩, y10, y14, yC, yO, yP, yD, yW⟩ := id hM
  exact c_X6_order y3 h1 h2
def M6_addSlit (σ : oMem) (a : Int) : Int → oMem → Prop := (fun z σ' => if (20 ≤ a ∧ a ≤ 1000) ∧ σ 37 0 10 < 15 then z = σ 37 0 10 + 1 ∧ σ' = o_up (o_up (o_up σ 24 0 31 0) 36 0 (150 + (σ 37 0 10).toNat) a) 37 0 10 (σ 37 0 10 + 1) else σ' = o_up σ 24 0 31 (if (20 ≤ a ∧ a ≤ 1000) then (if σ 37 0 10 < 15 then 0 else 2) else 1))
theorem cm_X6_addSlit {l : Launch} {g : oG} {σ : oMem} {a : Int} (hM : MI σ) (h1 : InR a) : oMi l g yX6_addSlit (.code yX6_addSlit cX6_addSlit 2 (some .int)) 3 0 [.ref (g.2.1 24 0), oi a] σ (M6_addSlit σ a) := by
  obtain ⟨y1, y3, y5, ⟨y7, y8, y9⟩, y10, y14, yC, yO, yP, yD, yW⟩ := id hM
  exact c_X6_addSlit ⟨yD.1, yD.2.1⟩ h1
def M6_clearDraft (σ : oMem) : Int → oMem → Prop := (fun z σ' => z = σ 37 0 10 ∧ σ' = o_up (o_up σ 37 0 10 0) 24 0 31 0)
theorem cm_X6_clearDraft {l : Launch} {g : oG} {σ : oMem} (hM : MI σ)  : oMi l g yX6_clearDraft (.code yX6_clearDraft cX6_clearDraft 2 (some .int)) 2 0 [.ref (g.2.1 24 0)] σ (M6_clearDraft σ) := by
  obtain ⟨y1, y3, y5, ⟨y7, y8, y9⟩, y10, y14, yC, yO, yP, yD, yW⟩ := id hM
  exact c_X6_clearDraft
def M6_draftSlits (σ : oMem) : Int → oMem → Prop := (fun z σ' => z = σ 37 0 10 ∧ σ' = o_up σ 24 0 31 0)
theorem cm_X6_draftSlits {l : Launch} {g : oG} {σ : oMem} (hM : MI σ)  : oMi l g yX6_draftSlits (.code yX6_draftSlits cX6_draftSlits 1 (some .int)) 2 0 [.ref (g.2.1 24 0)] σ (M6_draftSlits σ) := by
  obtain ⟨y1, y3, y5, ⟨y7, y8, y9⟩, y10, y14, yC, yO, yP, yD, yW⟩ := id hM
  exact c_X6_draftSlits
def M6_draftWidth (σ : oMem) (a : Int) : Int → oMem → Prop := (fun z σ' => ((0 ≤ a ∧ a ≤ σ 37 0 10 - 1) → z = σ 36 0 (150 + a.toNat)) ∧ σ' = o_up σ 24 0 31 (if (0 ≤ a ∧ a ≤ σ 37 0 10 - 1) then 0 else 1))
theorem cm_X6_draftWidth {l : Launch} {g : oG} {σ : oMem} {a : Int} (hM : MI σ) (h1 : InR a) : oMi l g yX6_draftWidth (.code yX6_draftWidth cX6_draftWidth 2 (some .int)) 2 0 [.ref (g.2.1 24 0), oi a] σ (M6_draftWidth σ a) := by
  obtain ⟨y1, y3, y5, ⟨y7, y8, y9⟩, y10, y14, yC, yO, yP, yD, yW⟩ := id hM
  exact c_X6_draftWidth ⟨yD.1, yD.2.1⟩ h1
def M6_keep (σ : oMem) : Int → oMem → Prop := (fun z σ' => if (0 < σ 37 0 10 ∧ σ 24 0 18 < 10) then z = σ 24 0 18 ∧ σ' = o_up (o_up (o_bs (o_up (o_up σ 24 0 31 0) 37 0 (σ 24 0 18).toNat (σ 37 0 10)) 36 0 (15 * (σ 24 0 18).toNat) (σ 37 0 10).toNat (fun j => σ 36 0 (150 + j))) 37 0 10 0) 24 0 18 (σ 24 0 18 + 1) else σ' = o_up σ 24 0 31 1)
theorem cm_X6_keep {l : Launch} {g : oG} {σ : oMem} (hM : MI σ)  : oMi l g yX6_keep (.code yX6_keep cX6_keep 2 (some .int)) 3 0 [.ref (g.2.1 24 0)] σ (M6_keep σ) := by
  obtain ⟨y1, y3, y5, ⟨y7, y8, y9⟩, y10, y14, yC, yO, yP, yD, yW⟩ := id hM
  exact c_X6_keep ⟨yD.1, yD.2.1⟩ y5 
def M6_fits (σ : oMem) (a b : Int) : Int → oMem → Prop := (fun z σ' => ((mkP σ a ∧ mkC σ b) → z = b2i (mFit σ a.toNat b.toNat)) ∧ σ' = o_up σ 24 0 31 (if (mkP σ a ∧ mkC σ b) then 0 else 1))
theorem cm_X6_fits {l : Launch} {g : oG} {σ : oMem} {a b : Int} (hM : MI σ) (h1 : InR a) (h2 : InR b) : oMi l g yX6_fits (.code yX6_fits cX6_fits 3 (some .boolean)) 3 0 [.ref (g.2.1 24 0), oi a, oi b] σ (M6_fits σ a b) := by
  obtain ⟨y1, y3, y5, ⟨y7, y8, y9⟩, y10, y14, yC, yO, yP, yD, yW⟩ := id hM
  exact c_X6_fits y1 y5 yP y7 (fun c hc => by have q := (yC c hc).1.1; omega) (by omega) h1 h2
def M6_fill (σ : oMem) (a : Int) : Int → oMem → Prop := (fun z σ' => if mkC σ a then mFl σ a z σ' else σ' = o_up σ 24 0 31 1)
theorem cm_X6_fill {l : Launch} {g : oG} {σ : oMem} {a : Int} (hM : MI σ) (h1 : InR a) : oMi l g yX6_fill (.code yX6_fill cX6_fill 7 (some .int)) 4 0 [.ref (g.2.1 24 0), oi a] σ (M6_fill σ a) := by
  obtain ⟨y1, y3, y5, ⟨y7, y8, y9⟩, y10, y14, yC, yO, yP, yD, yW⟩ := id hM
  exact c_X6_fill y1 (fun c hc => by have q := (yC c hc).1; exact ⟨q.1, by have := q.2.2.2.1; omega⟩) y7 y9 y3 yO h1 ⟨yD.1, yD.2.1⟩
def M6_fullestByTrying (σ : oMem) (a : Int) : Int → oMem → Prop := (fun z σ' => (mkC σ a ∧ σ 24 0 10 ≤ 8 → isG (mWt σ (σ 28 0 a.toNat)) (σ 24 0 10) (σ 25 0 a.toNat - 2 * σ 24 0 8) z) ∧ (∀ K, K ≠ 44 → σ' K = o_up σ 24 0 31 (if mkC σ a then (if σ 24 0 10 ≤ 8 then 0 else 2) else 1) K))
theorem cm_X6_fullestByTrying {l : Launch} {g : oG} {σ : oMem} {a : Int} (hM : MI σ) (h1 : InR a) : oMi l g yX6_fullestByTrying (.code yX6_fullestByTrying cX6_fullestByTrying 3 (some .int)) 4 0 [.ref (g.2.1 24 0), oi a] σ (M6_fullestByTrying σ a) := by
  obtain ⟨y1, y3, y5, ⟨y7, y8, y9⟩, y10, y14, yC, yO, yP, yD, yW⟩ := id hM
  exact c_X6_fullestByTrying y1 (fun c hc => by have q := (yC c hc).1; exact ⟨q.1, by have := q.2.2.2.1; omega⟩) y7 y9 y3 yO h1
def M6_run (σ : oMem) (a b : Int) : Int → oMem → Prop := (fun z σ' => if (mkC σ a ∧ mkP σ b) ∧ ((mkC σ a ∧ mkP σ b) ∧ σ 38 0 a.toNat = -1 ∧ mFit σ b.toNat a.toNat) then z = (mRun (o_up σ 24 0 31 0) a.toNat b.toNat).2 ∧ σ' = (mRun (o_up σ 24 0 31 0) a.toNat b.toNat).1 else σ' = o_up σ 24 0 31 (if (mkC σ a ∧ mkP σ b) then (if ((mkC σ a ∧ mkP σ b) ∧ σ 38 0 a.toNat = -1 ∧ mFit σ b.toNat a.toNat) then 0 else 2) else 1))
theorem cm_X6_run {l : Launch} {g : oG} {σ : oMem} {a b : Int} (hM : MI σ) (h1 : InR a) (h2 : InR b) : oMi l g yX6_run (.code yX6_run cX6_run 4 (some .int)) 5 0 [.ref (g.2.1 24 0), oi a, oi b] σ (M6_run σ a b) := by
  obtain ⟨y1, y3, y5, ⟨y7, y8, y9⟩, y10, y14, yC, yO, yP, yD, yW⟩ := id hM
  exact c_X6_run hM h1 h2
def M6_moves (σ : oMem) (a : Int) : Int → oMem → Prop := (fun z σ' => ((mkP σ a) → z = mMv σ (σ 24 0 23) a.toNat) ∧ σ' = o_up σ 24 0 31 (if (mkP σ a) then 0 else 1))
theorem cm_X6_moves {l : Launch} {g : oG} {σ : oMem} {a : Int} (hM : MI σ) (h1 : InR a) : oMi l g yX6_moves (.code yX6_moves cX6_moves 2 (some .int)) 4 0 [.ref (g.2.1 24 0), oi a] σ (M6_moves σ a) := by
  obtain ⟨y1, y3, y5, ⟨y7, y8, y9⟩, y10, y14, yC, yO, yP, yD, yW⟩ := id hM
  exact c_X6_moves hM h1
def M6_moved (σ : oMem) : Int → oMem → Prop := (fun z σ' => z = σ 24 0 24 ∧ σ' = o_up σ 24 0 31 0)
theorem cm_X6_moved {l : Launch} {g : oG} {σ : oMem} (hM : MI σ)  : oMi l g yX6_moved (.code yX6_moved cX6_moved 1 (some .int)) 2 0 [.ref (g.2.1 24 0)] σ (M6_moved σ) := by
  obtain ⟨y1, y3, y5, ⟨y7, y8, y9⟩, y10, y14, yC, yO, yP, yD, yW⟩ := id hM
  exact c_X6_moved
def M6_plan (σ : oMem) (a b : Int) : Int → oMem → Prop := (fun z σ' => ((mkC σ a ∧ mkP σ b) ∧ (((mkC σ a ∧ mkP σ b) ∧ σ 38 0 a.toNat = -1 ∧ mFit σ b.toNat a.toNat ∧ σ 24 0 27 < 7) ∧ ∀ k : Nat, (k : Int) < σ 24 0 27 → σ 42 0 k ≠ a) → z = σ 24 0 27 ∧ σ' = o_up (o_up (o_up (o_up σ 24 0 31 0) 42 0 (σ 24 0 27).toNat a) 43 0 (σ 24 0 27).toNat b) 24 0 27 (σ 24 0 27 + 1)) ∧ (¬ (mkC σ a ∧ mkP σ b) → σ' = o_up σ 24 0 31 1) ∧ ((mkC σ a ∧ mkP σ b) → ¬ (((mkC σ a ∧ mkP σ b) ∧ σ 38 0 a.toNat = -1 ∧ mFit σ b.toNat a.toNat ∧ σ 24 0 27 < 7) ∧ ∀ k : Nat, (k : Int) < σ 24 0 27 → σ 42 0 k ≠ a) → σ' = o_up σ 24 0 31 2))
theorem cm_X6_plan {l : Launch} {g : oG} {σ : oMem} {a b : Int} (hM : MI σ) (h1 : InR a) (h2 : InR b) : oMi l g yX6_plan (.code yX6_plan cX6_plan 6 (some .int)) 5 0 [.ref (g.2.1 24 0), oi a, oi b] σ (M6_plan σ a b) := by
  obtain ⟨y1, y3, y5, ⟨y7, y8, y9⟩, y10, y14, yC, yO, yP, yD, yW⟩ := id hM
  exact c_X6_plan hM h1 h2
def M6_waiting (σ : oMem) : Int → oMem → Prop := (fun z σ' => z = σ 24 0 27 ∧ σ' = o_up σ 24 0 31 0)
theorem cm_X6_waiting {l : Launch} {g : oG} {σ : oMem} (hM : MI σ)  : oMi l g yX6_waiting (.code yX6_waiting cX6_waiting 1 (some .int)) 2 0 [.ref (g.2.1 24 0)] σ (M6_waiting σ) := by
  obtain ⟨y1, y3, y5, ⟨y7, y8, y9⟩, y10, y14, yC, yO, yP, yD, yW⟩ := id hM
  exact c_X6_waiting
def M6_slits (σ : oMem) (a : Int) : Int → oMem → Prop := (fun z σ' => (mkC σ a → z = if σ 38 0 a.toNat = -1 then -1 else σ 37 0 (σ 38 0 a.toNat).toNat) ∧ σ' = o_up σ 24 0 31 (if mkC σ a then 0 else 1))
theorem cm_X6_slits {l : Launch} {g : oG} {σ : oMem} {a : Int} (hM : MI σ) (h1 : InR a) : oMi l g yX6_slits (.code yX6_slits cX6_slits 2 (some .int)) 4 0 [.ref (g.2.1 24 0), oi a] σ (M6_slits σ a) := by
  obtain ⟨y1, y3, y5, ⟨y7, y8, y9⟩, y10, y14, yC, yO, yP, yD, yW⟩ := id hM
  exact c_X6_slits hM h1
def M6_slitWeight (σ : oMem) (a b : Int) : Int → oMem → Prop := (fun z σ' => (mkS σ a b → z = σ 39 0 (15 * a.toNat + b.toNat)) ∧ σ' = o_up σ 24 0 31 (if mkS σ a b then 0 else 1))
theorem cm_X6_slitWeight {l : Launch} {g : oG} {σ : oMem} {a b : Int} (hM : MI σ) (h1 : InR a) (h2 : InR b) : oMi l g yX6_slitWeight (.code yX6_slitWeight cX6_slitWeight 3 (some .int)) 4 0 [.ref (g.2.1 24 0), oi a, oi b] σ (M6_slitWeight σ a b) := by
  obtain ⟨y1, y3, y5, ⟨y7, y8, y9⟩, y10, y14, yC, yO, yP, yD, yW⟩ := id hM
  exact c_X6_slitWeight hM h1 h2
def M6_slitOrder (σ : oMem) (a b : Int) : Int → oMem → Prop := (fun z σ' => (mkS σ a b → z = σ 40 0 (15 * a.toNat + b.toNat)) ∧ σ' = o_up σ 24 0 31 (if mkS σ a b then 0 else 1))
theorem cm_X6_slitOrder {l : Launch} {g : oG} {σ : oMem} {a b : Int} (hM : MI σ) (h1 : InR a) (h2 : InR b) : oMi l g yX6_slitOrder (.code yX6_slitOrder cX6_slitOrder 3 (some .int)) 4 0 [.ref (g.2.1 24 0), oi a, oi b] σ (M6_slitOrder σ a b) := by
  obtain ⟨y1, y3, y5, ⟨y7, y8, y9⟩, y10, y14, yC, yO, yP, yD, yW⟩ := id hM
  exact c_X6_slitOrder hM h1 h2
def M6_lost (σ : oMem) (a b : Int) : Int → oMem → Prop := (fun z σ' => (mkC σ a ∧ (0 ≤ b ∧ b ≤ 2) → z = σ 41 0 (3 * a.toNat + b.toNat)) ∧ σ' = o_up σ 24 0 31 (if mkC σ a then (if (0 ≤ b ∧ b ≤ 2) then 0 else 2) else 1))
theorem cm_X6_lost {l : Launch} {g : oG} {σ : oMem} {a b : Int} (hM : MI σ) (h1 : InR a) (h2 : InR b) : oMi l g yX6_lost (.code yX6_lost cX6_lost 3 (some .int)) 4 0 [.ref (g.2.1 24 0), oi a, oi b] σ (M6_lost σ a b) := by
  obtain ⟨y1, y3, y5, ⟨y7, y8, y9⟩, y10, y14, yC, yO, yP, yD, yW⟩ := id hM
  exact c_X6_lost hM h1 h2
def M6_delivered (σ : oMem) (a : Int) : Int → oMem → Prop := (fun z σ' => (mkO σ a → z = σ 34 0 a.toNat) ∧ σ' = o_up σ 24 0 31 (if mkO σ a then 0 else 1))
theorem cm_X6_delivered {l : Launch} {g : oG} {σ : oMem} {a : Int} (hM : MI σ) (h1 : InR a) : oMi l g yX6_delivered (.code yX6_delivered cX6_delivered 2 (some .int)) 4 0 [.ref (g.2.1 24 0), oi a] σ (M6_delivered σ a) := by
  obtain ⟨y1, y3, y5, ⟨y7, y8, y9⟩, y10, y14, yC, yO, yP, yD, yW⟩ := id hM
  exact c_X6_delivered hM h1
def M6_heatOf (σ : oMem) (a : Int) : Int → oMem → Prop := (fun z σ' => (mkO σ a → z = σ 35 0 a.toNat) ∧ σ' = o_up σ 24 0 31 (if mkO σ a then 0 else 1))
theorem cm_X6_heatOf {l : Launch} {g : oG} {σ : oMem} {a : Int} (hM : MI σ) (h1 : InR a) : oMi l g yX6_heatOf (.code yX6_heatOf cX6_heatOf 2 (some .int)) 4 0 [.ref (g.2.1 24 0), oi a] σ (M6_heatOf σ a) := by
  obtain ⟨y1, y3, y5, ⟨y7, y8, y9⟩, y10, y14, yC, yO, yP, yD, yW⟩ := id hM
  exact c_X6_heatOf hM h1
def M6_stock (σ : oMem) (a : Int) : Int → oMem → Prop := (fun z σ' => z = o_sum (mSt σ a) (σ 24 0 4).toNat ∧ σ' = o_up σ 24 0 31 0)
theorem cm_X6_stock {l : Launch} {g : oG} {σ : oMem} {a : Int} (hM : MI σ) (h1 : InR a) : oMi l g yX6_stock (.code yX6_stock cX6_stock 6 (some .int)) 4 0 [.ref (g.2.1 24 0), oi a] σ (M6_stock σ a) := by
  obtain ⟨y1, y3, y5, ⟨y7, y8, y9⟩, y10, y14, yC, yO, yP, yD, yW⟩ := id hM
  exact c_X6_stock hM h1
def M6_fewestMoves (τ σ : oMem) : Int → oMem → Prop := fun z σ' => z = oFC (mvX τ) (τ 0 0 14).toNat 7 (2 ^ (τ 0 0 14).toNat - 1) ∧ ∀ K, K ≠ 45 → K ≠ 46 → σ' K = o_up σ 24 0 31 0 K
theorem cm_X6_fewestMoves {l : Launch} {g : oG} {τ σ : oMem} (h : Rel τ σ) : oMi l g yX6_fewestMoves (.code yX6_fewestMoves cX6_fewestMoves 1 (some .int)) 5 0 [.ref (g.2.1 24 0)] σ (M6_fewestMoves τ σ) := by
  have x14 := h.1.2.2.2.2.2.1
  have n27 := h.2.1.2.2.2.2
  exact c_X6_fewestMoves (n := (τ 0 0 14).toNat) (mv := mvX τ) h.mi (by omega) (fun b r hb hr => h.mvb (by omega) b r hb hr) (fun b r _ _ => h.mvbd b r)
def M6_fewestByTrying (τ σ : oMem) : Int → oMem → Prop := fun z σ' => z = oFC (mvX τ) (τ 0 0 14).toNat 7 (2 ^ (τ 0 0 14).toNat - 1) ∧ ∀ K, K ≠ 45 → K ≠ 46 → σ' K = o_up σ 24 0 31 0 K
theorem cm_X6_fewestByTrying {l : Launch} {g : oG} {τ σ : oMem} (h : Rel τ σ) : oMi l g yX6_fewestByTrying (.code yX6_fewestByTrying cX6_fewestByTrying 1 (some .int)) 5 0 [.ref (g.2.1 24 0)] σ (M6_fewestByTrying τ σ) := by
  have x14 := h.1.2.2.2.2.2.1
  have n27 := h.2.1.2.2.2.2
  exact c_X6_fewestByTrying (n := (τ 0 0 14).toNat) (mv := mvX τ) h.mi (by omega) (fun b r hb hr => h.mvb (by omega) b r hb hr) (fun b r _ _ => h.mvbd b r)
def M6_nextAt (τ σ : oMem) (a : Int) : Int → oMem → Prop := fun z σ' => ((0 ≤ a ∧ a ≤ σ 24 0 27 - 1) → ∃ q : Nat → Nat, isBest (mvX τ) (τ 0 0 14).toNat q ∧ z = q a.toNat) ∧ ∀ K, K ≠ 45 → K ≠ 46 → σ' K = o_up σ 24 0 31 (if (0 ≤ a ∧ a ≤ σ 24 0 27 - 1) then 0 else 1) K
theorem cm_X6_nextAt {l : Launch} {g : oG} {τ σ : oMem} {a : Int} (h : Rel τ σ) (h1 : InR a) : oMi l g yX6_nextAt (.code yX6_nextAt cX6_nextAt 2 (some .int)) 5 0 [.ref (g.2.1 24 0), oi a] σ (M6_nextAt τ σ a) := by
  have x14 := h.1.2.2.2.2.2.1
  have n27 := h.2.1.2.2.2.2
  exact c_X6_nextAt (n := (τ 0 0 14).toNat) (mv := mvX τ) h.mi (by omega) (fun b r hb hr => h.mvb (by omega) b r hb hr) (fun b r _ _ => h.mvbd b r) h1
def M6_runAll (τ σ : oMem) : Int → oMem → Prop := fun z σ' => ∃ (q : Nat → Nat) (μ : oMem), isBest (mvX τ) (τ 0 0 14).toNat q ∧ (∀ K, K ≠ 45 → K ≠ 46 → μ K = o_up σ 24 0 31 0 K) ∧ z = (mRa μ q (τ 0 0 14).toNat).2 ∧ σ' = o_up (mRa μ q (τ 0 0 14).toNat).1 24 0 27 0
theorem cm_X6_runAll {l : Launch} {g : oG} {τ σ : oMem} (h : Rel τ σ) : oMi l g yX6_runAll (.code yX6_runAll cX6_runAll 5 (some .int)) 6 0 [.ref (g.2.1 24 0)] σ (M6_runAll τ σ) := by
  have x14 := h.1.2.2.2.2.2.1
  have n27 := h.2.1.2.2.2.2
  refine c_X6_runAll (n := (τ 0 0 14).toNat) (mv := mvX τ) h.mi (by omega) (fun b r hb hr => h.mvb (by omega) b r hb hr) (fun b r _ _ => h.mvbd b r) (fun μ q hμ hq t ht => ?_)
  have hR : Rel τ μ := Rel_cg (R_thr h 0) h.tm.1 h.tm.2 (fun _ _ => rfl) rfl rfl (fun K h1 h2 => hμ K (by omega) (by omega)) (fun j _ => by rw [hμ 24 (by decide) (by decide)])
  exact (R_ra hR (n := (τ 0 0 14).toNat) (by omega) (isBest_lt hq) t ht).1.mi
def P5_clearDraft (σ : oMem) : Int → oMem → Prop := (fun z σ' => z = σ 8 10 1 ∧ σ' = o_up σ 8 10 1 0)
def P5_draftSlits (σ : oMem) : Int → oMem → Prop := (fun z σ' => z = σ 8 10 1 ∧ σ' = σ)
def P5_moved (σ : oMem) : Int → oMem → Prop := (fun z σ' => z = σ 0 0 11 ∧ σ' = σ)
def P5_waiting (σ : oMem) : Int → oMem → Prop := (fun z σ' => z = σ 0 0 14 ∧ σ' = σ)
def P5_fewestMoves (σ : oMem) : Int → oMem → Prop := (fun z σ' => z = oFC (mvX σ) (σ 0 0 14).toNat 7 (2 ^ (σ 0 0 14).toNat - 1) ∧ OM σ' ∧ ∀ K, K ≠ 14 → K ≠ 15 → σ' K = σ K)
def P5_fewestByTrying (σ : oMem) : Int → oMem → Prop := (fun z σ' => z = oFC (mvX σ) (σ 0 0 14).toNat 7 (2 ^ (σ 0 0 14).toNat - 1) ∧ OM σ' ∧ ∀ K, K ≠ 14 → K ≠ 15 → σ' K = σ K)
def P5_runAll (σ : oMem) : Int → oMem → Prop := (fun z σ' => ∃ (q : Nat → Nat) (μ : oMem), isBest (mvX σ) (σ 0 0 14).toNat q ∧ (∀ K, K ≠ 14 → K ≠ 15 → K ≠ 16 → μ K = σ K) ∧ OM μ ∧ z = (o_ra μ q (σ 0 0 14).toNat).2 ∧ σ' = o_up (o_ra μ q (σ 0 0 14).toNat).1 0 0 14 0)
def P5_stock (σ : oMem) (a : Int) : Int → oMem → Prop := (fun z σ' => z = o_sum (o_st σ a) (σ 0 0 1).toNat ∧ σ' = σ)
