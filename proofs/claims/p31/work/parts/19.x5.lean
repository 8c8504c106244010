def OO (σ : oMem) (r : Nat) : Prop := (20 ≤ σ 7 r 0 ∧ σ 7 r 0 ≤ 1000) ∧ (1 ≤ σ 7 r 1 ∧ σ 7 r 1 ≤ 50000) ∧ (0 ≤ σ 7 r 2 ∧ σ 7 r 2 ≤ 80000) ∧ (-1 ≤ σ 7 r 3 ∧ σ 7 r 3 ≤ 99)
theorem OO.ob {σ : oMem} {r : Nat} (h : OO σ r) : OB σ r := by obtain ⟨a, b, c, d⟩ := h; exact ⟨by omega, by omega, by omega, by omega⟩
/-- the slits are delivered, from the left: the world and how many -/
def o_dlS (μ : oMem) (c j : Nat) (t : Int) : oMem := if t = -1 then o_up μ 6 c j t else o_up (o_up (o_up μ 6 c j t) 7 t.toNat 2 (μ 7 t.toNat 2 + μ 5 c j)) 7 t.toNat 3 (μ 1 c 3)
def o_dl (σ : oMem) (c : Nat) : Nat → oMem × Int
  | 0 => (σ, 0)
  | j + 1 => (o_dlS (o_dl σ c j).1 c j (o_taker (o_dl σ c j).1 ((o_dl σ c j).1 4 c j) ((o_dl σ c j).1 1 c 3)), if o_taker (o_dl σ c j).1 ((o_dl σ c j).1 4 c j) ((o_dl σ c j).1 1 c 3) = -1 then (o_dl σ c j).2 else (o_dl σ c j).2 + 1)
theorem dlS_k {μ : oMem} {c j : Nat} {t : Int} {K : Nat} (h6 : K ≠ 6) (h7 : K ≠ 7) : o_dlS μ c j t K = μ K := by
  unfold o_dlS
  split
  · rw [o_up_k h6]
  · rw [o_up_k h7, o_up_k h7, o_up_k h6]
theorem dl_k {σ : oMem} {c : Nat} {K : Nat} (h6 : K ≠ 6) (h7 : K ≠ 7) : ∀ j : Nat, (o_dl σ c j).1 K = σ K
  | 0 => rfl
  | j + 1 => by
    show o_dlS _ _ _ _ K = _
    rw [dlS_k h6 h7, dl_k h6 h7 j]
theorem dlS_6 {μ : oMem} {c j : Nat} {t : Int} (i q : Nat) : o_dlS μ c j t 6 i q = if i = c ∧ q = j then t else μ 6 i q := by
  unfold o_dlS
  split <;> simp [o_up]
theorem dlS_7 {μ : oMem} {c j : Nat} {t : Int} (r q : Nat) : o_dlS μ c j t 7 r q = if t ≠ -1 ∧ r = t.toNat ∧ q = 3 then μ 1 c 3 else if t ≠ -1 ∧ r = t.toNat ∧ q = 2 then μ 7 r 2 + μ 5 c j else μ 7 r q := by
  unfold o_dlS
  split
  · rename_i h; simp [o_up, h]
  · rename_i h
    simp only [o_up]
    grind
theorem dl_o {σ : oMem} {c n : Nat} (hn : ∀ j, j < n → 0 ≤ σ 5 c j ∧ σ 5 c j ≤ 30000) (hh : -1 ≤ σ 1 c 3 ∧ σ 1 c 3 ≤ 99) (hO : ∀ r : Nat, (r : Int) < σ 0 0 3 → OO σ r) : ∀ j : Nat, j ≤ n → (∀ r : Nat, (r : Int) < σ 0 0 3 → OO (o_dl σ c j).1 r) ∧ (∀ r : Nat, (o_dl σ c j).1 7 r 0 = σ 7 r 0 ∧ (o_dl σ c j).1 7 r 1 = σ 7 r 1) ∧ (∀ r : Nat, σ 0 0 3 ≤ r → (o_dl σ c j).1 7 r = σ 7 r) ∧ (∀ i q : Nat, i ≠ c ∨ j ≤ q → (o_dl σ c j).1 6 i q = σ 6 i q) ∧ ∀ q : Nat, q < j → -1 ≤ (o_dl σ c j).1 6 c q ∧ ((o_dl σ c j).1 6 c q = -1 ∨ (o_dl σ c j).1 6 c q < σ 0 0 3) := by
  intro j
  induction j with
  | zero => intro _; exact ⟨hO, fun r => ⟨rfl, rfl⟩, fun _ _ => rfl, fun _ _ _ => rfl, fun q hq => absurd hq (Nat.not_lt_zero q)⟩
  | succ j ih =>
    intro hj
    obtain ⟨i1, i2, i3, i4, i5⟩ := ih (by omega)
    have hw := hn j (by omega)
    show (∀ r : Nat, (r : Int) < σ 0 0 3 → OO (o_dlS _ c j _) r) ∧ (∀ r : Nat, o_dlS _ c j _ 7 r 0 = σ 7 r 0 ∧ o_dlS _ c j _ 7 r 1 = σ 7 r 1) ∧ (∀ r : Nat, σ 0 0 3 ≤ r → o_dlS _ c j _ 7 r = σ 7 r) ∧ (∀ i q : Nat, i ≠ c ∨ j + 1 ≤ q → o_dlS _ c j _ 6 i q = σ 6 i q) ∧ ∀ q : Nat, q < j + 1 → -1 ≤ o_dlS _ c j _ 6 c q ∧ (o_dlS _ c j _ 6 c q = -1 ∨ o_dlS _ c j _ 6 c q < σ 0 0 3)
    have hb := o_fs_bd (P := o_tkb (o_dl σ c j).1 ((o_dl σ c j).1 4 c j) ((o_dl σ c j).1 1 c 3)) (n := ((o_dl σ c j).1 0 0 3).toNat)
    rw [show o_fs (o_tkb (o_dl σ c j).1 ((o_dl σ c j).1 4 c j) ((o_dl σ c j).1 1 c 3)) ((o_dl σ c j).1 0 0 3).toNat = o_taker (o_dl σ c j).1 ((o_dl σ c j).1 4 c j) ((o_dl σ c j).1 1 c 3) from rfl] at hb
    generalize o_taker (o_dl σ c j).1 ((o_dl σ c j).1 4 c j) ((o_dl σ c j).1 1 c 3) = t at hb ⊢
    rw [dl_k (by decide) (by decide) j] at hb
    obtain ⟨b1, b2, b3⟩ := hb
    have k5 : (o_dl σ c j).1 5 c j = σ 5 c j := by rw [dl_k (by decide) (by decide) j]
    have k1 : (o_dl σ c j).1 1 c 3 = σ 1 c 3 := by rw [dl_k (by decide) (by decide) j]
    refine ⟨fun r hr => ?_, fun r => ?_, fun r hr => ?_, fun i q hq => ?_, fun q hq => ?_⟩
    · have h := i1 r hr
      obtain ⟨a, b, d, e⟩ := h
      unfold OO
      rw [dlS_7, dlS_7, dlS_7, dlS_7, k5, k1]
      by_cases ht : t ≠ -1 ∧ r = t.toNat
      · have hk := b3 ht.1
        rw [← ht.2] at hk
        unfold o_tkb at hk
        rw [decide_eq_true_iff] at hk
        have hk2 := hk.2.1
        simp [ht.1, ht.2] at *
        omega
      · rw [if_neg (fun q => ht ⟨q.1, q.2.1⟩), if_neg (fun q => ht ⟨q.1, q.2.1⟩), if_neg (fun q => ht ⟨q.1, q.2.1⟩), if_neg (fun q => ht ⟨q.1, q.2.1⟩), if_neg (fun q => ht ⟨q.1, q.2.1⟩), if_neg (fun q => ht ⟨q.1, q.2.1⟩), if_neg (fun q => ht ⟨q.1, q.2.1⟩), if_neg (fun q => ht ⟨q.1, q.2.1⟩)]
        exact ⟨a, b, d, e⟩
    · rw [dlS_7, dlS_7]
      simp
      exact i2 r
    · funext q
      rw [dlS_7, if_neg (by omega), if_neg (by omega), i3 r hr]
    · rw [dlS_6, if_neg (by omega)]
      exact i4 i q (by omega)
    · rw [dlS_6]
      split
      · omega
      · rename_i hne
        exact i5 q (by omega)
set_option maxRecDepth 100000 in
set_option maxHeartbeats 4000000 in
theorem c_X5_deliverSlits {l : Launch} {g : oG} {σ : oMem} {c : Nat} (hc : c < 20) (h0 : 0 ≤ σ 1 c 10 ∧ σ 1 c 10 ≤ 15) (h4 : ∀ j : Nat, (j : Int) < σ 1 c 10 → InR (σ 4 c j)) (h5 : ∀ j : Nat, (j : Int) < σ 1 c 10 → 0 ≤ σ 5 c j ∧ σ 5 c j ≤ 30000) (hh : -1 ≤ σ 1 c 3 ∧ σ 1 c 3 ≤ 99) (hn : 0 ≤ σ 0 0 3 ∧ σ 0 0 3 ≤ 12) (hO : ∀ r : Nat, (r : Int) < σ 0 0 3 → OO σ r) : oMi l g yX5_deliverSlits (.code yX5_deliverSlits cX5_deliverSlits 5 (some .int)) 3 0 [.ref (g.2.1 0 0), .ref (g.2.1 1 c)] σ (fun z σ' => z = (o_dl σ c (σ 1 c 10).toNat).2 ∧ σ' = (o_dl σ c (σ 1 c 10).toNat).1) := by
  refine oMi_of (own := RX5) (by decide +kernel) rfl (by simp [oi, Value.category]) (by simp) (fun x C E => ?_)
  show oW l g x σ 0 [some (.ref (g.2.1 0 0)), some (.ref (g.2.1 1 c)), none, none, none] [] 0
  have L : ∀ (n t : Nat) (m i : Int) (r : Option Value), σ 1 c 10 < t + n → (t : Int) ≤ σ 1 c 10 → i = t → m = (o_dl σ c t).2 → oW l g x (o_dl σ c t).1 4 [some (.ref (g.2.1 0 0)), some (.ref (g.2.1 1 c)), some (oi m), some (oi i), r] [] 0 := by
    intro n
    induction n with
    | zero => intro t m i r a1 a2; omega
    | succ n ih =>
      intro t m i r a1 a2 a3 a4
      subst a3
      have hd := dl_o (n := (σ 1 c 10).toNat) (fun j hj => h5 j (by omega)) hh hO t (by omega)
      have k : ∀ K, K ≠ 6 → K ≠ 7 → (o_dl σ c t).1 K = σ K := fun K k6 k7 => dl_k k6 k7 t
      have k0 : (o_dl σ c t).1 0 0 3 = σ 0 0 3 := by rw [k 0 (by decide) (by decide)]
      have k10 : (o_dl σ c t).1 1 c 10 = σ 1 c 10 := by rw [k 1 (by decide) (by decide)]
      have k3 : (o_dl σ c t).1 1 c 3 = σ 1 c 3 := by rw [k 1 (by decide) (by decide)]
      have k4 : (o_dl σ c t).1 4 c t = σ 4 c t := by rw [k 4 (by decide) (by decide)]
      have ih2 := ih (t + 1)
      simp only [o_dl] at ih2
      obtain ⟨μ, hμ⟩ : ∃ μ, μ = (o_dl σ c t).1 := ⟨_, rfl⟩
      rw [← hμ] at hd k k0 k10 k3 k4 ih2 ⊢
      refine o_iload_n (pc := 4) C dX5_deliverSlits_4 rfl ?_
      refine o_aload_n (pc := 5) C dX5_deliverSlits_5 rfl ?_
      refine gf_X5_222 (pc := 6) C (by omega) dX5_deliverSlits_6 ?_
      rw [k10]
      refine o_icmp_ge (pc := 9) C (tgt := 71) dX5_deliverSlits_9 (by decide) (by omega) (by omega) (fun h9 => ?_) (fun h9 => ?_)
      · rw [hμ]
        refine o_iload_n (pc := 71) C dX5_deliverSlits_71 rfl ?_
        exact E _ _ _ _ _ dX5_deliverSlits_72 rfl ⟨by rw [show (σ 1 c 10).toNat = t by omega]; exact a4, by rw [show (σ 1 c 10).toNat = t by omega]⟩ (by omega)
      · have hw := h4 t (by omega)
        refine o_aload_n (pc := 12) C dX5_deliverSlits_12 rfl ?_
        refine o_aload_n (pc := 13) C dX5_deliverSlits_13 rfl ?_
        refine gf_X5_302 (pc := 14) C (by omega) dX5_deliverSlits_14 ?_
        refine o_iload_n (pc := 17) C dX5_deliverSlits_17 rfl ?_
        skip
        refine ia_4 (pc := 18) C (by omega) (by omega) (by omega) dX5_deliverSlits_18 ?_
        rw [show ((t : Int)).toNat = t by omega]
        refine o_aload_n (pc := 19) C dX5_deliverSlits_19 rfl ?_
        refine gf_X5_287 (pc := 20) C (by omega) dX5_deliverSlits_20 ?_
        refine cl_X5_305 (pc := 23) C (c_X5_takerOf (by omega) (by omega) (by omega) (fun r hr => (hd.1 r (by omega)).ob)) (by omega) (by omega) (Nat.le_of_ble_eq_true rfl) dX5_deliverSlits_23 (fun z σ2 hq => ?_)
        obtain ⟨hz, hq⟩ := hq
        rw [hq]; clear hq
        have hb := o_fs_bd (P := o_tkb μ (μ 4 c t) (μ 1 c 3)) (n := (μ 0 0 3).toNat)
        rw [show o_fs (o_tkb μ (μ 4 c t) (μ 1 c 3)) (μ 0 0 3).toNat = o_taker μ (μ 4 c t) (μ 1 c 3) from rfl, ← hz] at hb
        rw [← hz] at ih2
        refine sti_4 (pc := 26) C dX5_deliverSlits_26 ?_
        refine o_aload_n (pc := 28) C dX5_deliverSlits_28 rfl ?_
        refine gf_X5_231 (pc := 29) C (by omega) dX5_deliverSlits_29 ?_
        refine o_iload_n (pc := 32) C dX5_deliverSlits_32 rfl ?_
        refine o_iload (pc := 33) C dX5_deliverSlits_33 rfl ?_
        refine is_6 (pc := 35) C (by omega) (by omega) (by omega) dX5_deliverSlits_35 ?_
        refine o_iload (pc := 36) C dX5_deliverSlits_36 rfl ?_
        refine o_iconst (pc := 38) C dX5_deliverSlits_38 ?_
        refine o_icmp_eq (pc := 39) C (tgt := 65) dX5_deliverSlits_39 (by decide) (by omega) (by omega) (fun h39 => ?_) (fun h39 => ?_)
        · refine inc_3 (pc := 65) C dX5_deliverSlits_65 ?_
          refine o_goto (pc := 68) C (tgt := 4) dX5_deliverSlits_68 (by decide) ?_
          first
          | (have e := ih2 m ((t : Int) + 1) (some (oi z)) (by omega) (by omega) (by omega) (by rw [if_pos h39, a4])
             unfold o_dlS at e
             rw [if_pos h39] at e
             rw [show ((t : Int)).toNat = t by omega]
             exact e)
          | (have e := ih2 (m + 1) ((t : Int) + 1) (some (oi z)) (by omega) (by omega) (by omega) (by rw [if_neg h39, a4])
             unfold o_dlS at e
             rw [if_neg h39] at e
             exact e)
        · skip
          refine o_aload_n (pc := 42) C dX5_deliverSlits_42 rfl ?_
          refine gf_X5_21 (pc := 43) C dX5_deliverSlits_43 ?_
          refine o_iload (pc := 46) C dX5_deliverSlits_46 rfl ?_
          refine aa_20 (pc := 48) C (by omega) (by omega) dX5_deliverSlits_48 ?_
          refine o_aload_n (pc := 49) C dX5_deliverSlits_49 rfl ?_
          refine gf_X5_228 (pc := 50) C (by omega) dX5_deliverSlits_50 ?_
          refine o_iload_n (pc := 53) C dX5_deliverSlits_53 rfl ?_
          skip
          refine ia_5 (pc := 54) C (by omega) (by omega) (by omega) dX5_deliverSlits_54 ?_
          refine o_aload_n (pc := 55) C dX5_deliverSlits_55 rfl ?_
          refine gf_X5_287 (pc := 56) C (by omega) dX5_deliverSlits_56 ?_
          refine cl_X5_308 (pc := 59) C (c_X2_receive (by omega)) (by omega) (by omega) (by omega) (Nat.le_of_ble_eq_true rfl) dX5_deliverSlits_59 (fun σ2 hq => ?_)
          rw [hq]; clear hq
          rw [show ((t : Int)).toNat = t by omega, show o_up μ 6 c t z 7 z.toNat 2 = μ 7 z.toNat 2 by rw [o_up_k (by decide)], show o_up μ 6 c t z 5 c t = μ 5 c t by rw [o_up_k (by decide)], show o_up μ 6 c t z 1 c 3 = μ 1 c 3 by rw [o_up_k (by decide)]]
          refine inc_2 (pc := 62) C dX5_deliverSlits_62 ?_
          refine inc_3 (pc := 65) C dX5_deliverSlits_65 ?_
          refine o_goto (pc := 68) C (tgt := 4) dX5_deliverSlits_68 (by decide) ?_
          first
          | (have e := ih2 m ((t : Int) + 1) (some (oi z)) (by omega) (by omega) (by omega) (by rw [if_pos h39, a4])
             unfold o_dlS at e
             rw [if_pos h39] at e
             rw [show ((t : Int)).toNat = t by omega]
             exact e)
          | (have e := ih2 (m + 1) ((t : Int) + 1) (some (oi z)) (by omega) (by omega) (by omega) (by rw [if_neg h39, a4])
             unfold o_dlS at e
             rw [if_neg h39] at e
             exact e)
  refine o_iconst (pc := 0) C dX5_deliverSlits_0 ?_
  refine sti_2 (pc := 1) C dX5_deliverSlits_1 ?_
  refine o_iconst (pc := 2) C dX5_deliverSlits_2 ?_
  refine sti_3 (pc := 3) C dX5_deliverSlits_3 ?_
  exact L 16 0 _ _ _ (by omega) (by omega) rfl rfl
/-- a coil is slit: the world ahead of the deliveries -/
def o_sc (σ : oMem) (c p : Nat) : oMem := o_slit (o_up (o_up σ 0 0 11 (σ 0 0 11 + oMb σ (σ 0 0 10) p)) 0 0 10 p) c (σ 0 0 8) p (σ 8 p 1).toNat
def o_run (σ : oMem) (c p : Nat) : oMem × Int := o_dl (o_sc σ c p) c (σ 8 p 1).toNat
theorem slit_k {σ : oMem} {c : Nat} {a : Int} {p n K : Nat} (h1 : K ≠ 1) (h4 : K ≠ 4) (h5 : K ≠ 5) : o_slit σ c a p n K = σ K := by
  unfold o_slit
  rw [o_up_k h1, o_up_k h1, o_up_k h1, o_up_k h1]
  funext i j
  simp [o_bl, h4, h5]
theorem slit_1 {σ : oMem} {c : Nat} {a : Int} {p n : Nat} (i j : Nat) : o_slit σ c a p n 1 i j = if i = c ∧ j = 10 then σ 8 p 1 else if i = c ∧ j = 13 then o_net σ c a - o_sum (o_wt σ c a p) n else if i = c ∧ j = 12 then o_cut σ c a else if i = c ∧ j = 11 then o_inner σ c a else σ 1 i j := by
  unfold o_slit
  simp only [o_up, o_bl]
  simp
theorem slit_4 {σ : oMem} {c : Nat} {a : Int} {p n : Nat} (i j : Nat) : o_slit σ c a p n 4 i j = if i = c ∧ j < n then σ 9 p j else σ 4 i j := by
  unfold o_slit
  simp only [o_up, o_bl]
  simp
theorem slit_5 {σ : oMem} {c : Nat} {a : Int} {p n : Nat} (i j : Nat) : o_slit σ c a p n 5 i j = if i = c ∧ j < n then o_wt σ c a p j else σ 5 i j := by
  unfold o_slit
  simp only [o_up, o_bl]
  simp
theorem o_sum_ge {f : Nat → Int} : ∀ n : Nat, (∀ j, j < n → 0 ≤ f j) → 0 ≤ o_sum f n ∧ ∀ j, j < n → f j ≤ o_sum f n
  | 0, _ => ⟨Int.le_refl 0, fun j h => absurd h (Nat.not_lt_zero j)⟩
  | n + 1, h => by
    obtain ⟨a, b⟩ := o_sum_ge n (fun j hj => h j (by omega))
    have c := h n (by omega)
    rw [o_sum]
    refine ⟨by omega, fun j hj => ?_⟩
    rcases Nat.lt_succ_iff_lt_or_eq.mp hj with y | y
    · have := b j y; omega
    · subst y; omega
theorem PB.tw {σ : oMem} {p : Nat} (h : PB σ p) {j : Nat} (hj : (j : Int) < σ 8 p 1) : σ 9 p j ≤ o_tw σ p :=
  (o_sum_ge (f := σ 9 p) (σ 8 p 1).toNat (fun q hq => by have := h.2.2 q (by omega); omega)).2 j (by omega)
theorem o_wt_bd {σ : oMem} {c p : Nat} {a : Int} (hC : CB σ c) (hP : PB σ p) (h0 : 0 ≤ a) (h1 : a ≤ 500) (hf : o_tw σ p ≤ σ 1 c 0) (j : Nat) (hj : (j : Int) < σ 8 p 1) : 0 ≤ o_wt σ c a p j ∧ o_wt σ c a p j ≤ 30000 := by
  have hw := o_wts hC h0 h1
  have hp := hP.2.2 j hj
  have ht := hP.tw hj
  have hc := hC.1
  have m0 : 0 ≤ o_net σ c a * σ 9 p j := Int.mul_nonneg (by omega) (by omega)
  have m1 : o_net σ c a * σ 9 p j ≤ 30000 * σ 1 c 0 := Int.mul_le_mul (by omega) (by omega) (by omega) (by omega)
  unfold o_wt
  exact ⟨Int.ediv_nonneg m0 (by omega), Int.ediv_le_of_le_mul (by omega) m1⟩
theorem oMb_cong {σ μ : oMem} (h0 : μ 0 0 5 = σ 0 0 5) (h8 : μ 8 = σ 8) (h9 : μ 9 = σ 9) (a b : Int) : oMb μ a b = oMb σ a b := by
  unfold oMb okP o_kn
  rw [h0, h8, h9]
theorem CB_cong {σ μ : oMem} (h1 : μ 1 = σ 1) (h2 : μ 2 = σ 2) (h3 : μ 3 = σ 3) (c : Nat) : CB μ c = CB σ c := by
  unfold CB DB
  rw [h1, h2, h3]
theorem PB_cong {σ μ : oMem} (h8 : μ 8 = σ 8) (h9 : μ 9 = σ 9) (p : Nat) : PB μ p = PB σ p := by
  unfold PB
  rw [h8, h9]
set_option maxRecDepth 100000 in
set_option maxHeartbeats 4000000 in
theorem c_X5_slitCoil {l : Launch} {g : oG} {σ : oMem} {c p : Nat} (hc : c < 20) (hc1 : (c : Int) < σ 0 0 1) (hc2 : σ 0 0 1 ≤ 20) (hp1 : (p : Int) < σ 0 0 5) (hp2 : σ 0 0 5 ≤ 10) (hC : CB σ c) (hP : ∀ p : Nat, (p : Int) < σ 0 0 5 → PB σ p) (hl : 0 ≤ σ 0 0 8 ∧ σ 0 0 8 ≤ 500) (hs : InR (σ 0 0 10)) (hf : o_tw σ p ≤ σ 1 c 0) (hn : 0 ≤ σ 0 0 3 ∧ σ 0 0 3 ≤ 12) (hO : ∀ r : Nat, (r : Int) < σ 0 0 3 → OO σ r) : oMi l g yX5_slitCoil (.code yX5_slitCoil cX5_slitCoil 3 (some .int)) 4 0 [.ref (g.2.1 0 0), oi (c : Int), oi (p : Int)] σ (fun z σ' => z = (o_run σ c p).2 ∧ σ' = (o_run σ c p).1) := by
  refine oMi_of (own := RX5) (by decide +kernel) rfl (by simp [oi, Value.category]) (by simp) (fun x C E => ?_)
  show oW l g x σ 0 [some (.ref (g.2.1 0 0)), some (oi (c : Int)), some (oi (p : Int))] [] 0
  have hPp := hP p hp1
  have p0 := hPp.1
  have p1 := hPp.2.1
  obtain ⟨σ1, hσ1⟩ : ∃ σ1, σ1 = o_up (o_up σ 0 0 11 (σ 0 0 11 + oMb σ (σ 0 0 10) p)) 0 0 10 p := ⟨_, rfl⟩
  have k : ∀ K, K ≠ 0 → σ1 K = σ K := fun K hK => by rw [hσ1, o_up_k hK, o_up_k hK]
  have k8 : σ1 0 0 8 = σ 0 0 8 := by rw [hσ1]; simp [o_up]
  have k03 : σ1 0 0 3 = σ 0 0 3 := by rw [hσ1]; simp [o_up]
  have hC1 : CB σ1 c := by rw [CB_cong (k 1 (by decide)) (k 2 (by decide)) (k 3 (by decide))]; exact hC
  have hP1 : PB σ1 p := by rw [PB_cong (k 8 (by decide)) (k 9 (by decide))]; exact hPp
  have hwt : ∀ j : Nat, (j : Int) < σ1 8 p 1 → 0 ≤ o_wt σ1 c (σ1 0 0 8) p j ∧ o_wt σ1 c (σ1 0 0 8) p j ≤ 30000 := o_wt_bd hC1 hP1 (by omega) (by omega) (by unfold o_tw; rw [k 8 (by decide), k 9 (by decide), k 1 (by decide)]; exact hf)
  have hsc : o_sc σ c p = o_slit σ1 c (σ1 0 0 8) p (σ1 8 p 1).toNat := by unfold o_sc; rw [← hσ1, k8, k 8 (by decide)]
  have s10 : o_sc σ c p 1 c 10 = σ 8 p 1 := by rw [hsc, slit_1, if_pos ⟨rfl, rfl⟩, k 8 (by decide)]
  have s3 : o_sc σ c p 1 c 3 = σ 1 c 3 := by rw [hsc, slit_1]; simp [k 1 (by decide)]
  have s03 : o_sc σ c p 0 0 3 = σ 0 0 3 := by rw [hsc, slit_k (by decide) (by decide) (by decide), k03]
  have d4 : ∀ j : Nat, (j : Int) < o_sc σ c p 1 c 10 → InR (o_sc σ c p 4 c j) := fun j hj => by
    rw [s10] at hj
    rw [hsc, slit_4, if_pos ⟨rfl, by rw [k 8 (by decide)]; omega⟩, k 9 (by decide)]
    have := hPp.2.2 j hj; omega
  have d5 : ∀ j : Nat, (j : Int) < o_sc σ c p 1 c 10 → 0 ≤ o_sc σ c p 5 c j ∧ o_sc σ c p 5 c j ≤ 30000 := fun j hj => by
    rw [s10] at hj
    rw [hsc, slit_5, if_pos ⟨rfl, by rw [k 8 (by decide)]; omega⟩]
    exact hwt j (by rw [k 8 (by decide)]; exact hj)
  have dO : ∀ r : Nat, (r : Int) < o_sc σ c p 0 0 3 → OO (o_sc σ c p) r := fun r hr => by
    rw [s03] at hr
    unfold OO
    rw [hsc, slit_k (by decide) (by decide) (by decide), k 7 (by decide)]
    exact hO r hr
  refine o_aload_n (pc := 0) C dX5_slitCoil_0 rfl ?_
  refine o_dup (pc := 1) C dX5_slitCoil_1 rfl ?_
  refine gf_X5_54 (pc := 2) C dX5_slitCoil_2 ?_
  try simp (disch := decide) only [o_up_s, o_up_k, o_up_j, o_bl_k, o_rw_k]
  refine o_aload_n (pc := 5) C dX5_slitCoil_5 rfl ?_
  refine o_aload_n (pc := 6) C dX5_slitCoil_6 rfl ?_
  refine gf_X5_51 (pc := 7) C dX5_slitCoil_7 ?_
  try simp (disch := decide) only [o_up_s, o_up_k, o_up_j, o_bl_k, o_rw_k]
  refine o_iload_n (pc := 10) C dX5_slitCoil_10 rfl ?_
  refine cl_X5_196 (pc := 11) C (c_X5_movesBetween hs (by omega) (by omega) hP) (by omega) (by omega) (Nat.le_of_ble_eq_true rfl) dX5_slitCoil_11 (fun z σ2 hq => ?_)
  obtain ⟨rfl, hq⟩ := hq
  rw [hq]; clear hq
  refine o_iadd (pc := 14) C dX5_slitCoil_14 ?_
  refine pf_X5_54 (pc := 15) C dX5_slitCoil_15 ?_
  refine o_aload_n (pc := 18) C dX5_slitCoil_18 rfl ?_
  refine o_iload_n (pc := 19) C dX5_slitCoil_19 rfl ?_
  refine pf_X5_51 (pc := 20) C dX5_slitCoil_20 ?_
  rw [← hσ1]
  refine o_aload_n (pc := 23) C dX5_slitCoil_23 rfl ?_
  refine gf_X5_11 (pc := 24) C dX5_slitCoil_24 ?_
  refine o_iload_n (pc := 27) C dX5_slitCoil_27 rfl ?_
  refine aa_19 (pc := 28) C (by omega) (by omega) dX5_slitCoil_28 ?_
  rw [show ((c : Int)).toNat = c by omega]
  refine o_aload_n (pc := 29) C dX5_slitCoil_29 rfl ?_
  refine gf_X5_30 (pc := 30) C dX5_slitCoil_30 ?_
  refine o_iload_n (pc := 33) C dX5_slitCoil_33 rfl ?_
  refine aa_21 (pc := 34) C (by omega) (by omega) dX5_slitCoil_34 ?_
  rw [show ((p : Int)).toNat = p by omega]
  refine o_aload_n (pc := 35) C dX5_slitCoil_35 rfl ?_
  refine gf_X5_45 (pc := 36) C dX5_slitCoil_36 ?_
  try simp (disch := decide) only [o_up_s, o_up_k, o_up_j, o_bl_k, o_rw_k]
  refine cl_X5_295 (pc := 39) C (c_X0_slitBy (by omega) (by omega) hC1 hP1 (by omega) (by omega)) (by omega) (by omega) (by omega) (Nat.le_of_ble_eq_true rfl) dX5_slitCoil_39 (fun σ2 hq => ?_)
  rw [← hsc] at hq
  rw [hq]; clear hq
  refine o_aload_n (pc := 42) C dX5_slitCoil_42 rfl ?_
  refine o_aload_n (pc := 43) C dX5_slitCoil_43 rfl ?_
  refine gf_X5_11 (pc := 44) C dX5_slitCoil_44 ?_
  refine o_iload_n (pc := 47) C dX5_slitCoil_47 rfl ?_
  refine aa_19 (pc := 48) C (by omega) (by omega) dX5_slitCoil_48 ?_
  rw [show ((c : Int)).toNat = c by omega]
  refine cl_X5_299 (pc := 49) C (c_X5_deliverSlits (by omega) (by rw [s10]; omega) d4 d5 (by rw [s3]; have := hC.2.2.2.1; omega) (by rw [s03]; exact hn) dO) (by omega) (by omega) (Nat.le_of_ble_eq_true rfl) dX5_slitCoil_49 (fun z σ2 hq => ?_)
  obtain ⟨rfl, hq⟩ := hq
  rw [hq, s10]; clear hq
  exact E _ _ _ _ _ dX5_slitCoil_52 rfl ⟨rfl, rfl⟩ (by omega)
