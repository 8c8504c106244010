set_option maxRecDepth 100000 in
set_option maxHeartbeats 1000000 in
theorem c_X6_fits {l : Launch} {g : oG} {σ : oMem} {a b : Int} (hc : 0 ≤ σ 24 0 4 ∧ σ 24 0 4 ≤ 20) (hp : 0 ≤ σ 24 0 18 ∧ σ 24 0 18 ≤ 10) (hP : ∀ p : Nat, (p : Int) < σ 24 0 18 → mP σ p) (h0 : 0 ≤ σ 24 0 8 ∧ σ 24 0 8 ≤ 100) (hw : ∀ c : Nat, (c : Int) < σ 24 0 4 → InR (σ 25 0 c)) (hk : InR (σ 24 0 10)) (h1 : InR a) (h2 : InR b) : oMi l g yX6_fits (.code yX6_fits cX6_fits 3 (some .boolean)) 3 0 [.ref (g.2.1 24 0), oi a, oi b] σ (fun z σ' => ((mkP σ a ∧ mkC σ b) → z = b2i (mFit σ a.toNat b.toNat)) ∧ σ' = o_up σ 24 0 31 (if (mkP σ a ∧ mkC σ b) then 0 else 1)) := by
  refine oMi_of (own := RX6) (by decide +kernel) rfl (by simp [oi, Value.category]) (by simp) (fun x C E => ?_)
  show oW l g x σ 0 [some (.ref (g.2.1 24 0)), some (oi a), some (oi b)] [] 0
  have K22 : ∀ v : Int, v = b2i (mkP σ a ∧ mkC σ b) → oW l g x σ 22 [some (.ref (g.2.1 24 0)), some (oi a), some (oi b)] [oi v, .ref (g.2.1 24 0)] 0 := by
    intro v hv
    subst hv
    refine cl_X6_117 (pc := 22) C (c_X6_asked (P := (mkP σ a ∧ mkC σ b))) (by omega) (by omega) (Nat.le_of_ble_eq_true rfl) dX6_fits_22 (fun z σ2 hq => ?_)
    obtain ⟨rfl, hq⟩ := hq
    rw [hq]; clear hq
    refine o_if_eq (pc := 25) C (tgt := 41) dX6_fits_25 (by decide) (by unfold b2i; split <;> omega) (fun h25 => ?_) (fun h25 => ?_)
    · refine o_iconst (pc := 41) C dX6_fits_41 ?_
      first
      | (have y := hq
         first
         | exact E _ _ _ _ _ dX6_fits_42 rfl ⟨fun _ => by rw [hz] at h34; exact b2i_t (o_t h34), rfl⟩ (by omega)
         | exact E _ _ _ _ _ dX6_fits_42 rfl ⟨fun _ => by rw [hz] at h34; exact b2i_f (o_f h34), rfl⟩ (by omega))
      | exact E _ _ _ _ _ dX6_fits_42 rfl ⟨fun q => absurd q (o_f h25), rfl⟩ (by omega)
    · have hq := o_t h25
      have ea : (a.toNat : Int) = a := by omega
      have eb : (b.toNat : Int) = b := by omega
      have q8 : o_up σ 24 0 31 (if mkP σ a ∧ mkC σ b then 0 else 1) 24 0 8 = σ 24 0 8 := o_up_j (by decide)
      have q10 : o_up σ 24 0 31 (if mkP σ a ∧ mkC σ b then 0 else 1) 24 0 10 = σ 24 0 10 := o_up_j (by decide)
      have hP2 : mP (o_up σ 24 0 31 (if mkP σ a ∧ mkC σ b then 0 else 1)) a.toNat := by
        unfold mP mW
        rw [o_up_k (by decide), o_up_k (by decide)]
        exact hP _ (by omega)
      have hfe : (mFit (o_up σ 24 0 31 (if mkP σ a ∧ mkC σ b then 0 else 1)) a.toNat b.toNat) = (mFit σ a.toNat b.toNat) := by
        unfold mFit mW
        rw [q8, q10, o_up_k (by decide), o_up_k (by decide), o_up_k (by decide)]
      refine o_aload_n (pc := 28) C dX6_fits_28 rfl ?_
      refine o_iload_n (pc := 29) C dX6_fits_29 rfl ?_
      refine o_iload_n (pc := 30) C dX6_fits_30 rfl ?_
      rw [show oi a = oi (a.toNat : Int) by rw [ea], show oi b = oi (b.toNat : Int) by rw [eb]]
      refine cl_X6_134 (pc := 31) C (c_X6_canRun (p := a.toNat) (c := b.toNat) (by omega) (by omega) hP2 (by rw [q8]; exact h0) (by rw [o_up_k (by decide)]; exact hw _ (by omega)) (by rw [q10]; exact hk)) (by omega) (by omega) (Nat.le_of_ble_eq_true rfl) dX6_fits_31 (fun z σ2 hq => ?_)
      obtain ⟨hz, hq⟩ := hq
      rw [hq]; clear hq
      simp only [hfe] at hz
      refine o_if_eq (pc := 34) C (tgt := 41) dX6_fits_34 (by decide) (by rw [hz]; unfold b2i; split <;> omega) (fun h34 => ?_) (fun h34 => ?_)
      · refine o_iconst (pc := 41) C dX6_fits_41 ?_
        first
        | (have y := hq
           first
           | exact E _ _ _ _ _ dX6_fits_42 rfl ⟨fun _ => by rw [hz] at h34; exact b2i_t (o_t h34), rfl⟩ (by omega)
           | exact E _ _ _ _ _ dX6_fits_42 rfl ⟨fun _ => by rw [hz] at h34; exact b2i_f (o_f h34), rfl⟩ (by omega))
        | exact E _ _ _ _ _ dX6_fits_42 rfl ⟨fun q => absurd q (o_f h25), rfl⟩ (by omega)
      · refine o_iconst (pc := 37) C dX6_fits_37 ?_
        refine o_goto (pc := 38) C (tgt := 42) dX6_fits_38 (by decide) ?_
        first
        | (have y := hq
           first
           | exact E _ _ _ _ _ dX6_fits_42 rfl ⟨fun _ => by rw [hz] at h34; exact b2i_t (o_t h34), rfl⟩ (by omega)
           | exact E _ _ _ _ _ dX6_fits_42 rfl ⟨fun _ => by rw [hz] at h34; exact b2i_f (o_f h34), rfl⟩ (by omega))
        | exact E _ _ _ _ _ dX6_fits_42 rfl ⟨fun q => absurd q (o_f h25), rfl⟩ (by omega)
  refine o_aload_n (pc := 0) C dX6_fits_0 rfl ?_
  refine o_aload_n (pc := 1) C dX6_fits_1 rfl ?_
  refine o_iload_n (pc := 2) C dX6_fits_2 rfl ?_
  refine cl_X6_131 (pc := 3) C (c_X6_isPattern h1 hp) (by omega) (by omega) (Nat.le_of_ble_eq_true rfl) dX6_fits_3 (fun z σ2 hq => ?_)
  obtain ⟨rfl, hq⟩ := hq
  rw [hq]; clear hq
  refine o_if_eq (pc := 6) C (tgt := 21) dX6_fits_6 (by decide) (by unfold b2i; split <;> omega) (fun h6 => ?_) (fun h6 => ?_)
  · refine o_iconst (pc := 21) C dX6_fits_21 ?_
    first
    | exact K22 _ (b2i_t ⟨o_t h6, o_t h14⟩)
    | exact K22 _ (b2i_f (fun q => o_f h6 q.1))
    | exact K22 _ (b2i_f (fun q => o_f h14 q.2))
  · refine o_aload_n (pc := 9) C dX6_fits_9 rfl ?_
    refine o_iload_n (pc := 10) C dX6_fits_10 rfl ?_
    refine cl_X6_106 (pc := 11) C (c_X6_isCoil h2 hc) (by omega) (by omega) (Nat.le_of_ble_eq_true rfl) dX6_fits_11 (fun z σ2 hq => ?_)
    obtain ⟨rfl, hq⟩ := hq
    rw [hq]; clear hq
    refine o_if_eq (pc := 14) C (tgt := 21) dX6_fits_14 (by decide) (by unfold b2i; split <;> omega) (fun h14 => ?_) (fun h14 => ?_)
    · refine o_iconst (pc := 21) C dX6_fits_21 ?_
      first
      | exact K22 _ (b2i_t ⟨o_t h6, o_t h14⟩)
      | exact K22 _ (b2i_f (fun q => o_f h6 q.1))
      | exact K22 _ (b2i_f (fun q => o_f h14 q.2))
    · refine o_iconst (pc := 17) C dX6_fits_17 ?_
      refine o_goto (pc := 18) C (tgt := 22) dX6_fits_18 (by decide) ?_
      first
      | exact K22 _ (b2i_t ⟨o_t h6, o_t h14⟩)
      | exact K22 _ (b2i_f (fun q => o_f h6 q.1))
      | exact K22 _ (b2i_f (fun q => o_f h14 q.2))
/-- an order of the model -/
def mO (σ : oMem) (r : Nat) : Prop := (20 ≤ σ 32 0 r ∧ σ 32 0 r ≤ 1000) ∧ (1 ≤ σ 33 0 r ∧ σ 33 0 r ≤ 50000) ∧ (0 ≤ σ 34 0 r ∧ σ 34 0 r ≤ 80000) ∧ (-1 ≤ σ 35 0 r ∧ σ 35 0 r ≤ 99)
abbrev mTk (σ : oMem) (r : Nat) (h : Int) : Prop := σ 34 0 r < σ 33 0 r ∧ (σ 35 0 r = -1 ∨ σ 35 0 r = h)
def mWt (σ : oMem) (h v : Int) : Prop := ∃ r : Nat, (r : Int) < σ 24 0 15 ∧ σ 32 0 r = v ∧ mTk σ r h
def mOk (σ : oMem) (h : Int) (r : Nat) : Bool := decide (mTk σ r h)
theorem mWt_ok {σ : oMem} {h : Int} (hO : ∀ r : Nat, (r : Int) < σ 24 0 15 → mO σ r) : (∀ w, mWt σ h w ↔ ∃ j : Nat, j < (σ 24 0 15).toNat ∧ mOk σ h j = true ∧ σ 32 0 j = w) ∧ ∀ w, mWt σ h w → 20 ≤ w := by
  refine ⟨fun w => ⟨fun ⟨r, a, b, c⟩ => ⟨r, by omega, decide_eq_true c, b⟩, fun ⟨r, a, b, c⟩ => ⟨r, by omega, c, of_decide_eq_true b⟩⟩, fun w ⟨r, a, b, c⟩ => ?_⟩
  have := (hO r a).1
  omega
set_option maxRecDepth 100000 in
set_option maxHeartbeats 1000000 in
theorem c_X6_takes {l : Launch} {g : oG} {σ : oMem} {r : Nat} {a : Int} (hr : r < 12) (hO : mO σ r) (ha : InR a) : oMi l g yX6_takes (.code yX6_takes cX6_takes 3 (some .boolean)) 1 0 [.ref (g.2.1 24 0), oi (r : Int), oi a] σ (fun z σ' => z = b2i (mTk σ r a) ∧ σ' = σ) := by
  refine oMi_of (own := RX6) (by decide +kernel) rfl (by simp [oi, Value.category]) (by simp) (fun x C E => ?_)
  show oW l g x σ 0 [some (.ref (g.2.1 24 0)), some (oi (r : Int)), some (oi a)] [] 0
  obtain ⟨o1, o2, o3, o4⟩ := hO
  refine o_aload_n (pc := 0) C dX6_takes_0 rfl ?_
  refine gf_X6_47 (pc := 1) C dX6_takes_1 ?_
  refine o_iload_n (pc := 4) C dX6_takes_4 rfl ?_
  refine ia_34 (pc := 5) C (by omega) (by omega) dX6_takes_5 ?_
  rw [show ((r : Int)).toNat = r by omega]
  refine o_aload_n (pc := 6) C dX6_takes_6 rfl ?_
  refine gf_X6_44 (pc := 7) C dX6_takes_7 ?_
  refine o_iload_n (pc := 10) C dX6_takes_10 rfl ?_
  refine ia_33 (pc := 11) C (by omega) (by omega) dX6_takes_11 ?_
  rw [show ((r : Int)).toNat = r by omega]
  refine o_icmp_ge (pc := 12) C (tgt := 39) dX6_takes_12 (by decide) (by omega) (by omega) (fun h12 => ?_) (fun h12 => ?_)
  · refine o_iconst (pc := 39) C dX6_takes_39 ?_
    exact E _ _ _ _ _ dX6_takes_40 rfl ⟨by first | exact b2i_t ⟨by omega, by omega⟩ | exact b2i_f (fun q => by have := q.1; have := q.2; omega), rfl⟩ (by omega)
  · refine o_aload_n (pc := 15) C dX6_takes_15 rfl ?_
    refine gf_X6_50 (pc := 16) C dX6_takes_16 ?_
    refine o_iload_n (pc := 19) C dX6_takes_19 rfl ?_
    refine ia_35 (pc := 20) C (by omega) (by omega) dX6_takes_20 ?_
    rw [show ((r : Int)).toNat = r by omega]
    refine o_iconst (pc := 21) C dX6_takes_21 ?_
    refine o_icmp_eq (pc := 22) C (tgt := 35) dX6_takes_22 (by decide) (by omega) (by omega) (fun h22 => ?_) (fun h22 => ?_)
    · refine o_iconst (pc := 35) C dX6_takes_35 ?_
      refine o_goto (pc := 36) C (tgt := 40) dX6_takes_36 (by decide) ?_
      exact E _ _ _ _ _ dX6_takes_40 rfl ⟨by first | exact b2i_t ⟨by omega, by omega⟩ | exact b2i_f (fun q => by have := q.1; have := q.2; omega), rfl⟩ (by omega)
    · refine o_aload_n (pc := 25) C dX6_takes_25 rfl ?_
      refine gf_X6_50 (pc := 26) C dX6_takes_26 ?_
      refine o_iload_n (pc := 29) C dX6_takes_29 rfl ?_
      refine ia_35 (pc := 30) C (by omega) (by omega) dX6_takes_30 ?_
      rw [show ((r : Int)).toNat = r by omega]
      refine o_iload_n (pc := 31) C dX6_takes_31 rfl ?_
      refine o_icmp_ne (pc := 32) C (tgt := 39) dX6_takes_32 (by decide) (by omega) (by omega) (fun h32 => ?_) (fun h32 => ?_)
      · refine o_iconst (pc := 39) C dX6_takes_39 ?_
        exact E _ _ _ _ _ dX6_takes_40 rfl ⟨by first | exact b2i_t ⟨by omega, by omega⟩ | exact b2i_f (fun q => by have := q.1; have := q.2; omega), rfl⟩ (by omega)
      · refine o_iconst (pc := 35) C dX6_takes_35 ?_
        refine o_goto (pc := 36) C (tgt := 40) dX6_takes_36 (by decide) ?_
        exact E _ _ _ _ _ dX6_takes_40 rfl ⟨by first | exact b2i_t ⟨by omega, by omega⟩ | exact b2i_f (fun q => by have := q.1; have := q.2; omega), rfl⟩ (by omega)
set_option maxRecDepth 100000 in
set_option maxHeartbeats 1000000 in
theorem c_X6_fullest {l : Launch} {g : oG} {σ : oMem} {c : Nat} (hc : c < 20) (hw : 100 ≤ σ 25 0 c ∧ σ 25 0 c ≤ 2000) (he : 0 ≤ σ 24 0 8 ∧ σ 24 0 8 ≤ 100) (hk : 2 ≤ σ 24 0 10 ∧ σ 24 0 10 ≤ 16) (hn : 0 ≤ σ 24 0 15 ∧ σ 24 0 15 ≤ 12) (hO : ∀ r : Nat, (r : Int) < σ 24 0 15 → mO σ r) (hh : InR (σ 28 0 c)) : oMi l g yX6_fullest (.code yX6_fullest cX6_fullest 6 (some .int)) 2 0 [.ref (g.2.1 24 0), oi (c : Int)] σ (fun z σ' => isG (mWt σ (σ 28 0 c)) (σ 24 0 10) (σ 25 0 c - 2 * σ 24 0 8) z ∧ (∀ u : Int, 0 ≤ u → u ≤ σ 25 0 c - 2 * σ 24 0 8 → isD (mWt σ (σ 28 0 c)) 1000 u (σ' 44 0 u.toNat)) ∧ ∀ K, K ≠ 44 → σ' K = σ K) := by
  refine oMi_of (own := RX6) (by decide +kernel) rfl (by simp [oi, Value.category]) (by simp) (fun x C E => ?_)
  show oW l g x σ 0 [some (.ref (g.2.1 24 0)), some (oi (c : Int)), none, none, none, none] [] 0
  obtain ⟨rm, hrm⟩ : ∃ rm, rm = σ 25 0 c - 2 * σ 24 0 8 := ⟨_, rfl⟩
  rw [← hrm] at E
  have hW := mWt_ok (h := σ 28 0 c) hO
  have L2 : ∀ (t : Nat) (μ : oMem) (b : Int), (t : Int) ≤ rm → (∀ K, K ≠ 44 → μ K = σ K) → (∀ v : Int, 0 ≤ v → v < t → isD (mWt σ (σ 28 0 c)) 1000 v (μ 44 0 v.toNat)) → (∀ (v : Int) (r : Option Value), v = (if t = 0 then 0 else o_ff (σ 32 0) (mOk σ (σ 28 0 c)) (μ 44 0) (t : Int) 1000 (σ 24 0 15).toNat) → oW l g x (o_up μ 44 0 t v) 140 [some (.ref (g.2.1 24 0)), some (oi (c : Int)), some (oi rm), some (oi b), some (oi (t : Int)), r] [] 0) → ∀ (n q : Nat) (cv i : Int), σ 24 0 15 < q + n → (q : Int) ≤ σ 24 0 15 → i = q → cv = (if t = 0 then 0 else o_ff (σ 32 0) (mOk σ (σ 28 0 c)) (μ 44 0) (t : Int) 1000 q) → 0 ≤ cv → cv ≤ 1000 → oW l g x (o_up μ 44 0 t cv) 47 [some (.ref (g.2.1 24 0)), some (oi (c : Int)), some (oi rm), some (oi b), some (oi (t : Int)), some (oi i)] [] 0 := by
    intro t μ b ht hμ hD kk n
    induction n with
    | zero => intro q cv i a1 a2; omega
    | succ n ih =>
      intro q cv i a1 a2 a3 a4 a5 a6
      subst a3
      have k : ∀ K, K ≠ 44 → o_up μ 44 0 t cv K = σ K := fun K hK => by rw [o_up_k hK, hμ K hK]
      have kO : ∀ r : Nat, mO (o_up μ 44 0 t cv) r = mO σ r := fun r => by unfold mO; rw [k 32 (by decide), k 33 (by decide), k 34 (by decide), k 35 (by decide)]
      have kT : ∀ (r : Nat) (h : Int), mTk (o_up μ 44 0 t cv) r h = mTk σ r h := fun r h => by unfold mTk; rw [k 33 (by decide), k 34 (by decide), k 35 (by decide)]
      have eq : ((q : Int)).toNat = q := by omega
      have et : ((t : Int)).toNat = t := by omega
      have ett : o_up μ 44 0 t cv 44 0 t = cv := o_up_s _ _ _ _ _
      refine o_iload (pc := 47) C dX6_fullest_47 rfl ?_
      refine o_aload_n (pc := 49) C dX6_fullest_49 rfl ?_
      refine gf_X6_121 (pc := 50) C dX6_fullest_50 ?_
      try simp (disch := decide) only [k]
      skip
      refine o_icmp_ge (pc := 53) C (tgt := 140) dX6_fullest_53 (by decide) (by omega) (by omega) (fun h53 => ?_) (fun h53 => ?_)
      · exact kk _ _ (by rw [a4, show (σ 24 0 15).toNat = q by omega])
      · have ho := hO q (by omega)
        refine o_aload_n (pc := 56) C dX6_fullest_56 rfl ?_
        refine o_iload (pc := 57) C dX6_fullest_57 rfl ?_
        refine o_aload_n (pc := 59) C dX6_fullest_59 rfl ?_
        refine gf_X6_19 (pc := 60) C dX6_fullest_60 ?_
        refine o_iload_n (pc := 63) C dX6_fullest_63 rfl ?_
        refine ia_28 (pc := 64) C (by omega) (by omega) dX6_fullest_64 ?_
        try simp (disch := decide) only [k]
        rw [show ((c : Int)).toNat = c by omega]
        refine cl_X6_138 (pc := 65) C (c_X6_takes (by omega) (by rw [kO]; exact ho) hh) (by omega) (by omega) (Nat.le_of_ble_eq_true rfl) dX6_fullest_65 (fun z σ2 hq => ?_)
        obtain ⟨rfl, hq⟩ := hq
        rw [hq]; clear hq
        rw [show b2i (mTk (o_up μ 44 0 t cv) q (σ 28 0 c)) = b2i (mTk σ q (σ 28 0 c)) by unfold b2i; simp only [kT]]
        skip
        refine o_if_eq (pc := 68) C (tgt := 134) dX6_fullest_68 (by decide) (by unfold b2i; split <;> omega) (fun h68 => ?_) (fun h68 => ?_)
        · refine inc_5 (pc := 134) C dX6_fullest_134 ?_
          refine o_goto (pc := 137) C (tgt := 47) dX6_fullest_137 (by decide) ?_
          first
          | (have y := h107
             rw [et, show o_up (o_up μ 44 0 t cv) 44 0 t (μ 44 0 ((t : Int) - σ 32 0 q).toNat + 1) = o_up μ 44 0 t (μ 44 0 ((t : Int) - σ 32 0 q).toNat + 1) from by funext K i j; simp only [o_up]; grind]
             refine ih (q + 1) _ _ (by omega) (by omega) (by omega) ?_ (by omega) (by omega)
             rw [if_neg (by omega), o_ff, if_pos]
             rw [if_neg (by omega)] at a4
             exact ⟨decide_eq_true hok, h80, by omega⟩)
          | (refine ih (q + 1) _ _ (by omega) (by omega) (by omega) ?_ a5 a6
             by_cases ht0 : t = 0
             · rw [if_pos ht0] at a4 ⊢; exact a4
             · rw [if_neg ht0] at a4 ⊢
               rw [o_ff, if_neg, a4]
               rintro ⟨c1, c2, c3⟩
               first
               | exact o_f h68 (of_decide_eq_true c1)
               | omega)
        · have hok := o_t h68
          have hwq := ho.1
          refine o_aload_n (pc := 71) C dX6_fullest_71 rfl ?_
          refine gf_X6_41 (pc := 72) C dX6_fullest_72 ?_
          refine o_iload (pc := 75) C dX6_fullest_75 rfl ?_
          refine ia_32 (pc := 77) C (by omega) (by omega) dX6_fullest_77 ?_
          try simp (disch := decide) only [k]
          rw [eq]
          refine o_iload (pc := 78) C dX6_fullest_78 rfl ?_
          refine o_icmp_gt (pc := 80) C (tgt := 134) dX6_fullest_80 (by decide) (by omega) (by omega) (fun h80 => ?_) (fun h80 => ?_)
          · refine inc_5 (pc := 134) C dX6_fullest_134 ?_
            refine o_goto (pc := 137) C (tgt := 47) dX6_fullest_137 (by decide) ?_
            first
            | (have y := h107
               rw [et, show o_up (o_up μ 44 0 t cv) 44 0 t (μ 44 0 ((t : Int) - σ 32 0 q).toNat + 1) = o_up μ 44 0 t (μ 44 0 ((t : Int) - σ 32 0 q).toNat + 1) from by funext K i j; simp only [o_up]; grind]
               refine ih (q + 1) _ _ (by omega) (by omega) (by omega) ?_ (by omega) (by omega)
               rw [if_neg (by omega), o_ff, if_pos]
               rw [if_neg (by omega)] at a4
               exact ⟨decide_eq_true hok, h80, by omega⟩)
            | (refine ih (q + 1) _ _ (by omega) (by omega) (by omega) ?_ a5 a6
               by_cases ht0 : t = 0
               · rw [if_pos ht0] at a4 ⊢; exact a4
               · rw [if_neg ht0] at a4 ⊢
                 rw [o_ff, if_neg, a4]
                 rintro ⟨c1, c2, c3⟩
                 first
                 | exact o_f h68 (of_decide_eq_true c1)
                 | omega)
          · have htw : o_up μ 44 0 t cv 44 0 ((t : Int) - σ 32 0 q).toNat = μ 44 0 ((t : Int) - σ 32 0 q).toNat := by rw [o_up_at, if_neg (by omega)]
            have hd := hD ((t : Int) - σ 32 0 q) (by omega) (by omega)
            have hd0 := hd.1
            have hd1 := hd.2.1
            refine o_aload_n (pc := 83) C dX6_fullest_83 rfl ?_
            refine gf_X6_80 (pc := 84) C dX6_fullest_84 ?_
            refine o_iload (pc := 87) C dX6_fullest_87 rfl ?_
            refine o_aload_n (pc := 89) C dX6_fullest_89 rfl ?_
            refine gf_X6_41 (pc := 90) C dX6_fullest_90 ?_
            refine o_iload (pc := 93) C dX6_fullest_93 rfl ?_
            refine ia_32 (pc := 95) C (by omega) (by omega) dX6_fullest_95 ?_
            try simp (disch := decide) only [k]
            rw [eq]
            refine o_isub (pc := 96) C dX6_fullest_96 ?_
            refine ia_44 (pc := 97) C (by omega) (by omega) dX6_fullest_97 ?_
            try simp (disch := decide) only [k]
            rw [htw]
            refine o_iconst (pc := 98) C dX6_fullest_98 ?_
            refine o_iadd (pc := 99) C dX6_fullest_99 ?_
            refine o_aload_n (pc := 100) C dX6_fullest_100 rfl ?_
            refine gf_X6_80 (pc := 101) C dX6_fullest_101 ?_
            refine o_iload (pc := 104) C dX6_fullest_104 rfl ?_
            refine ia_44 (pc := 106) C (by omega) (by omega) dX6_fullest_106 ?_
            try simp (disch := decide) only [k]
            rw [et, ett]
            refine o_icmp_ge (pc := 107) C (tgt := 134) dX6_fullest_107 (by decide) (by omega) (by omega) (fun h107 => ?_) (fun h107 => ?_)
            · refine inc_5 (pc := 134) C dX6_fullest_134 ?_
              refine o_goto (pc := 137) C (tgt := 47) dX6_fullest_137 (by decide) ?_
              first
              | (have y := h107
                 rw [et, show o_up (o_up μ 44 0 t cv) 44 0 t (μ 44 0 ((t : Int) - σ 32 0 q).toNat + 1) = o_up μ 44 0 t (μ 44 0 ((t : Int) - σ 32 0 q).toNat + 1) from by funext K i j; simp only [o_up]; grind]
                 refine ih (q + 1) _ _ (by omega) (by omega) (by omega) ?_ (by omega) (by omega)
                 rw [if_neg (by omega), o_ff, if_pos]
                 rw [if_neg (by omega)] at a4
                 exact ⟨decide_eq_true hok, h80, by omega⟩)
              | (refine ih (q + 1) _ _ (by omega) (by omega) (by omega) ?_ a5 a6
                 by_cases ht0 : t = 0
                 · rw [if_pos ht0] at a4 ⊢; exact a4
                 · rw [if_neg ht0] at a4 ⊢
                   rw [o_ff, if_neg, a4]
                   rintro ⟨c1, c2, c3⟩
                   first
                   | exact o_f h68 (of_decide_eq_true c1)
                   | omega)
            · refine o_aload_n (pc := 110) C dX6_fullest_110 rfl ?_
              refine gf_X6_80 (pc := 111) C dX6_fullest_111 ?_
              refine o_iload (pc := 114) C dX6_fullest_114 rfl ?_
              refine o_aload_n (pc := 116) C dX6_fullest_116 rfl ?_
              refine gf_X6_80 (pc := 117) C dX6_fullest_117 ?_
              refine o_iload (pc := 120) C dX6_fullest_120 rfl ?_
              refine o_aload_n (pc := 122) C dX6_fullest_122 rfl ?_
              refine gf_X6_41 (pc := 123) C dX6_fullest_123 ?_
              refine o_iload (pc := 126) C dX6_fullest_126 rfl ?_
              refine ia_32 (pc := 128) C (by omega) (by omega) dX6_fullest_128 ?_
              try simp (disch := decide) only [k]
              rw [eq]
              refine o_isub (pc := 129) C dX6_fullest_129 ?_
              refine ia_44 (pc := 130) C (by omega) (by omega) dX6_fullest_130 ?_
              try simp (disch := decide) only [k]
              rw [htw]
              refine o_iconst (pc := 131) C dX6_fullest_131 ?_
              refine o_iadd (pc := 132) C dX6_fullest_132 ?_
              refine is_44 (pc := 133) C (by omega) (by omega) dX6_fullest_133 ?_
              refine inc_5 (pc := 134) C dX6_fullest_134 ?_
              refine o_goto (pc := 137) C (tgt := 47) dX6_fullest_137 (by decide) ?_
              first
              | (have y := h107
                 rw [et, show o_up (o_up μ 44 0 t cv) 44 0 t (μ 44 0 ((t : Int) - σ 32 0 q).toNat + 1) = o_up μ 44 0 t (μ 44 0 ((t : Int) - σ 32 0 q).toNat + 1) from by funext K i j; simp only [o_up]; grind]
                 refine ih (q + 1) _ _ (by omega) (by omega) (by omega) ?_ (by omega) (by omega)
                 rw [if_neg (by omega), o_ff, if_pos]
                 rw [if_neg (by omega)] at a4
                 exact ⟨decide_eq_true hok, h80, by omega⟩)
              | (refine ih (q + 1) _ _ (by omega) (by omega) (by omega) ?_ a5 a6
                 by_cases ht0 : t = 0
                 · rw [if_pos ht0] at a4 ⊢; exact a4
                 · rw [if_neg ht0] at a4 ⊢
                   rw [o_ff, if_neg, a4]
                   rintro ⟨c1, c2, c3⟩
                   first
                   | exact o_f h68 (of_decide_eq_true c1)
                   | omega)
  have L1 : ∀ (n t : Nat) (μ : oMem) (b i : Int) (r : Option Value), rm + 1 < t + n → ((t : Int) ≤ rm + 1 ∨ t = 0) → 0 < n → i = t → (∀ K, K ≠ 44 → μ K = σ K) → (∀ v : Int, 0 ≤ v → v < t → isD (mWt σ (σ 28 0 c)) 1000 v (μ 44 0 v.toNat)) → isG (mWt σ (σ 28 0 c)) (σ 24 0 10) ((t : Int) - 1) b → 0 ≤ b → b ≤ 2000 → oW l g x μ 19 [some (.ref (g.2.1 24 0)), some (oi (c : Int)), some (oi rm), some (oi b), some (oi i), r] [] 0 := by
    intro n
    induction n with
    | zero => intro t μ b i r a1 a2 a3; omega
    | succ n ih =>
      intro t μ b i r a1 a2 a3 a4 a5 a6 a7 a8 a9
      subst a4
      have et : ((t : Int)).toNat = t := by omega
      have hD0 : t ≠ 0 → isD (mWt σ (σ 28 0 c)) 1000 t (o_ff (σ 32 0) (mOk σ (σ 28 0 c)) (μ 44 0) (t : Int) 1000 (σ 24 0 15).toNat) := fun h0 => ff_D hW.1 (fun w hw => by have := hW.2 w hw; omega) (by omega) a6 (by omega)
      have K43 : ∀ v : Int, v = (if t = 0 then 0 else 1000) → (t : Int) ≤ rm → oW l g x μ 43 [some (.ref (g.2.1 24 0)), some (oi (c : Int)), some (oi rm), some (oi b), some (oi (t : Int)), r] [oi v, oi (t : Int), .ref (g.2.1 44 0)] 0 := by
        intro v hv ht
        refine is_44 (pc := 43) C (by omega) (by omega) dX6_fullest_43 ?_
        rw [et]
        refine o_iconst (pc := 44) C dX6_fullest_44 ?_
        refine sti_5 (pc := 45) C dX6_fullest_45 ?_
        refine L2 t μ b ht a5 a6 (fun v2 r2 hv2 => ?_) 13 0 _ _ (by omega) (by omega) rfl (by rw [hv]; rfl) (by rw [hv]; split <;> omega) (by rw [hv]; split <;> omega)
        have hdt : isD (mWt σ (σ 28 0 c)) 1000 t v2 := by
          rw [hv2]
          by_cases h0 : t = 0
          · rw [if_pos h0, h0]; exact isD_zero (by omega)
          · rw [if_neg h0]; exact hD0 h0
        have hlt := isD_lt (k := σ 24 0 10) hdt (by omega)
        have b0 := hdt.1
        have b1 := hdt.2.1
        have k2 : ∀ K, K ≠ 44 → o_up μ 44 0 t v2 K = σ K := fun K hK => by rw [o_up_k hK, a5 K hK]
        have hD2 : ∀ v : Int, 0 ≤ v → v < ((t + 1 : Nat) : Int) → isD (mWt σ (σ 28 0 c)) 1000 v (o_up μ 44 0 t v2 44 0 v.toNat) := fun v v0 v1 => by
          rw [o_up_at]
          by_cases e : v.toNat = t
          · rw [if_pos ⟨rfl, rfl, e⟩, show v = t by omega]; exact hdt
          · rw [if_neg (fun z => e z.2.2)]; exact a6 v v0 (by omega)
        refine o_aload_n (pc := 140) C dX6_fullest_140 rfl ?_
        refine gf_X6_80 (pc := 141) C dX6_fullest_141 ?_
        refine o_iload (pc := 144) C dX6_fullest_144 rfl ?_
        refine ia_44 (pc := 146) C (by omega) (by omega) dX6_fullest_146 ?_
        try simp (disch := decide) only [k2]
        rw [et, o_up_s]
        refine o_aload_n (pc := 147) C dX6_fullest_147 rfl ?_
        refine gf_X6_38 (pc := 148) C dX6_fullest_148 ?_
        try simp (disch := decide) only [k2]
        refine o_icmp_ge (pc := 151) C (tgt := 159) dX6_fullest_151 (by decide) (by omega) (by omega) (fun h151 => ?_) (fun h151 => ?_)
        · refine o_iload_n (pc := 159) C dX6_fullest_159 rfl ?_
          refine sti_3 (pc := 160) C dX6_fullest_160 ?_
          refine inc_4 (pc := 161) C dX6_fullest_161 ?_
          refine o_goto (pc := 164) C (tgt := 19) dX6_fullest_164 (by decide) ?_
          first
          | (have y := hlt.mp h151
             refine ih (t + 1) _ _ _ _ (by omega) (by omega) (by omega) (by omega) k2 hD2 ⟨?_, fun u u1 u2 u3 => by omega⟩ (by omega) (by omega)
             by_cases h0 : t = 0
             · exact Or.inl (by omega)
             · exact Or.inr ⟨by omega, by omega, y⟩)
          | (refine ih (t + 1) _ _ _ _ (by omega) (by omega) (by omega) (by omega) k2 hD2 ⟨?_, fun u u1 u2 u3 => ?_⟩ a8 a9
             · rcases a7.1 with y | ⟨y1, y2, y3⟩
               · exact Or.inl y
               · exact Or.inr ⟨y1, by omega, y3⟩
             · rcases Int.lt_or_le u t with y | y
               · exact a7.2 u u1 (by omega) u3
               · exfalso
                 rw [show u = (t : Int) by omega, ← hlt] at u3
                 omega)
        · refine o_iload (pc := 154) C dX6_fullest_154 rfl ?_
          refine o_goto (pc := 156) C (tgt := 160) dX6_fullest_156 (by decide) ?_
          refine sti_3 (pc := 160) C dX6_fullest_160 ?_
          refine inc_4 (pc := 161) C dX6_fullest_161 ?_
          refine o_goto (pc := 164) C (tgt := 19) dX6_fullest_164 (by decide) ?_
          first
          | (have y := hlt.mp h151
             refine ih (t + 1) _ _ _ _ (by omega) (by omega) (by omega) (by omega) k2 hD2 ⟨?_, fun u u1 u2 u3 => by omega⟩ (by omega) (by omega)
             by_cases h0 : t = 0
             · exact Or.inl (by omega)
             · exact Or.inr ⟨by omega, by omega, y⟩)
          | (refine ih (t + 1) _ _ _ _ (by omega) (by omega) (by omega) (by omega) k2 hD2 ⟨?_, fun u u1 u2 u3 => ?_⟩ a8 a9
             · rcases a7.1 with y | ⟨y1, y2, y3⟩
               · exact Or.inl y
               · exact Or.inr ⟨y1, by omega, y3⟩
             · rcases Int.lt_or_le u t with y | y
               · exact a7.2 u u1 (by omega) u3
               · exfalso
                 rw [show u = (t : Int) by omega, ← hlt] at u3
                 omega)
      refine o_iload (pc := 19) C dX6_fullest_19 rfl ?_
      refine o_iload_n (pc := 21) C dX6_fullest_21 rfl ?_
      refine o_icmp_gt (pc := 22) C (tgt := 167) dX6_fullest_22 (by decide) (by omega) (by omega) (fun h22 => ?_) (fun h22 => ?_)
      · refine o_iload_n (pc := 167) C dX6_fullest_167 rfl ?_
        exact E _ _ _ _ _ dX6_fullest_168 rfl ⟨⟨by rcases a7.1 with y | ⟨y1, y2, y3⟩; exact Or.inl y; exact Or.inr ⟨y1, by omega, y3⟩, fun u u1 u2 u3 => a7.2 u u1 (by omega) u3⟩, fun u u0 u1 => a6 u u0 (by omega), a5⟩ (by omega)
      · refine o_aload_n (pc := 25) C dX6_fullest_25 rfl ?_
        refine gf_X6_80 (pc := 26) C dX6_fullest_26 ?_
        refine o_iload (pc := 29) C dX6_fullest_29 rfl ?_
        refine o_iload (pc := 31) C dX6_fullest_31 rfl ?_
        refine o_if_ne (pc := 33) C (tgt := 40) dX6_fullest_33 (by decide) (by omega) (fun h33 => ?_) (fun h33 => ?_)
        · refine o_sipush (pc := 40) C dX6_fullest_40 rfl ?_
          first
          | exact K43 _ (by rw [if_pos (by omega)]) (by omega)
          | exact K43 _ (by rw [if_neg (by omega)]) (by omega)
        · refine o_iconst (pc := 36) C dX6_fullest_36 ?_
          refine o_goto (pc := 37) C (tgt := 43) dX6_fullest_37 (by decide) ?_
          first
          | exact K43 _ (by rw [if_pos (by omega)]) (by omega)
          | exact K43 _ (by rw [if_neg (by omega)]) (by omega)
  refine o_aload_n (pc := 0) C dX6_fullest_0 rfl ?_
  refine gf_X6_7 (pc := 1) C dX6_fullest_1 ?_
  refine o_iload_n (pc := 4) C dX6_fullest_4 rfl ?_
  refine ia_25 (pc := 5) C (by omega) (by omega) dX6_fullest_5 ?_
  rw [show ((c : Int)).toNat = c by omega]
  refine o_iconst (pc := 6) C dX6_fullest_6 ?_
  refine o_aload_n (pc := 7) C dX6_fullest_7 rfl ?_
  refine gf_X6_31 (pc := 8) C dX6_fullest_8 ?_
  refine o_imul (pc := 11) C dX6_fullest_11 ?_
  refine o_isub (pc := 12) C dX6_fullest_12 ?_
  rw [← hrm]
  refine sti_2 (pc := 13) C dX6_fullest_13 ?_
  refine o_iconst (pc := 14) C dX6_fullest_14 ?_
  refine sti_3 (pc := 15) C dX6_fullest_15 ?_
  refine o_iconst (pc := 16) C dX6_fullest_16 ?_
  refine sti_4 (pc := 17) C dX6_fullest_17 ?_
  exact L1 (rm.toNat + 3) 0 σ _ _ _ (by omega) (by omega) (by omega) rfl (fun _ _ => rfl) (fun v v0 v1 => by omega) ⟨Or.inl rfl, fun u u1 u2 => by omega⟩ (by omega) (by omega)
