/-! each call: the office and the model answer alike -/
def oOk (k b : Int) (σ2 : oMem) : Prop := σ2 24 0 31 = k ∧ (k = 0 → σ2 47 0 0 = b) ∧ Rel σ2 σ2 ∧ 0 ≤ k ∧ k ≤ 3
theorem Rel.fin {σ0 σ2 : oMem} (h : Rel σ0 σ2) (hc : ∀ K, K < 24 → σ2 K = σ0 K) : Rel σ2 σ2 :=
  Rel_cg h (by rw [TB_cong (hc 12 (by decide))]; exact h.tm.1) (by unfold OM; rw [hc 14 (by decide), hc 15 (by decide)]; exact h.tm.2) (fun K hK => hc K (by omega)) (hc 17 (by decide)) (hc 18 (by decide)) (fun _ _ _ => rfl) (fun _ _ => rfl)
theorem ok_thr {σ σ2 : oMem} {k b : Int} (h : Rel σ σ) (hk : 1 ≤ k ∧ k ≤ 3) (h2 : σ2 = o_up σ 24 0 31 k) : oOk k b σ2 := by
  subst h2
  exact ⟨o_up_s _ _ _ _ _, fun q => by omega, (R_thr h k).fin (fun K hK => o_up_k (by omega)), by omega, hk.2⟩
theorem ok_ret {σ0 σ2 : oMem} {z b : Int} (hR : Rel σ0 σ2) (hc : ∀ K, K < 24 → σ2 K = σ0 K) (h47 : σ2 47 0 0 = z) (ht : σ2 24 0 31 = 0) (hz : z = b) : oOk 0 b σ2 :=
  ⟨ht, fun _ => by rw [h47, hz], hR.fin hc, by decide, by decide⟩
theorem L_rel {σ σ1 : oMem} (h : Rel σ σ) (e : ∀ K, 24 ≤ K → K < 47 → σ1 K = σ K) : Rel σ σ1 :=
  Rel_cg h h.tm.1 h.tm.2 (fun _ _ => rfl) rfl rfl (fun K h1 h2 => e K (by omega) (by omega)) (fun j _ => by rw [e 24 (by decide) (by decide)])
theorem x_n1 : xIAE ≠ xISE := by decide
theorem x_n2 : xIAE ≠ xIOB := by decide
theorem x_n3 : xISE ≠ xIOB := by decide
theorem G_rel {σ σ1 : oMem} {k zv : Int} {c : Prop} (h : Rel σ σ) (hL : (k = 0 ∧ ∃ (z : Int) (σ0 : oMem), (z = zv ∧ c ∧ σ0 = σ) ∧ σ1 = o_up σ0 47 0 0 z) ∨ (k = 1 ∧ σ1 = σ ∧ ¬ c)) : Rel σ σ1 := by
  rcases hL with ⟨rfl, z, σ0, ⟨rfl, hc, rfl⟩, rfl⟩ | ⟨rfl, rfl, hc⟩
  · exact L_rel h (fun K h1 h2 => o_up_k (by omega))
  · exact h
theorem R_get {σ σ1 σ2 : oMem} {k b zv bv : Int} {c m : Prop} [dm : Decidable m] (h : Rel σ σ) (h1 : Rel σ σ1) (hL : (k = 0 ∧ ∃ (z : Int) (σ0 : oMem), (z = zv ∧ c ∧ σ0 = σ) ∧ σ1 = o_up σ0 47 0 0 z) ∨ (k = 1 ∧ σ1 = σ ∧ ¬ c)) (hm : (m → b = bv) ∧ σ2 = o_up σ1 24 0 31 (if m then 0 else 1)) (hcm : c ↔ m) (hv : c → zv = bv) : oOk k b σ2 := by
  obtain ⟨m1, m2⟩ := hm
  rcases hL with ⟨rfl, z, σ0, ⟨rfl, hc, rfl⟩, rfl⟩ | ⟨rfl, rfl, hc⟩
  · rw [if_pos (hcm.mp hc)] at m2
    refine ok_ret (σ0 := σ0) (z := z) (by rw [m2]; exact R_thr h1 0) (fun K hK => by rw [m2, o_up_k (by omega), o_up_k (by omega)]) (by rw [m2, o_up_k (by decide), o_up_s]) (by rw [m2, o_up_s]) (by rw [hv hc, m1 (hcm.mp hc)])
  · rw [if_neg (fun q => hc (hcm.mpr q))] at m2
    exact ok_thr h (by decide) m2
theorem KR_draftWidth {σ σ1 : oMem} {a : Int} {k : Int} (h : Rel σ σ) (hL : L5_draftWidth σ a k σ1) : Rel σ σ1 := by
  exact G_rel h (hL.imp id (fun q => ⟨q.1, q.2.1, q.2.2.2⟩))
theorem R5_draftWidth {σ σ1 σ2 : oMem} {a : Int} {k y : Int} (h : Rel σ σ) (h1 : Rel σ σ1) (hL : L5_draftWidth σ a k σ1) (hm : M6_draftWidth σ1 a y σ2) : oOk k y σ2 := by
  have hD := h1.2.2.2.2.2.2.2.2.1
  have e := hD.1
  exact R_get h h1 (hL.imp id (fun q => ⟨q.1, q.2.1, q.2.2.2⟩)) hm (by rw [e]; omega) (fun q => by have := hD.2 a.toNat (by omega); rw [← this])
theorem KR_moves {σ σ1 : oMem} {a : Int} {k : Int} (h : Rel σ σ) (hL : L5_moves σ a k σ1) : Rel σ σ1 := by
  exact G_rel h (hL.imp id (fun q => ⟨q.1, q.2.1, q.2.2.2⟩))
theorem R5_moves {σ σ1 σ2 : oMem} {a : Int} {k y : Int} (h : Rel σ σ) (h1 : Rel σ σ1) (hL : L5_moves σ a k σ1) (hm : M6_moves σ1 a y σ2) : oOk k y σ2 := by
  obtain ⟨⟨n4, n15, n18⟩, ⟨n8, n9, n10⟩, n23, n24, n27⟩ := h1.2.1
  exact R_get h h1 (hL.imp id (fun q => ⟨q.1, q.2.1, q.2.2.2⟩)) hm (by unfold okP mkP; rw [n18]; omega) (fun q => by rw [n23, h1.mv h.1.2.2.2.2.1 q])
theorem KR_slits {σ σ1 : oMem} {a : Int} {k : Int} (h : Rel σ σ) (hL : L5_slits σ a k σ1) : Rel σ σ1 := by
  exact G_rel h (hL.imp id (fun q => ⟨q.1, q.2.1, q.2.2.2⟩))
theorem R5_slits {σ σ1 σ2 : oMem} {a : Int} {k y : Int} (h : Rel σ σ) (h1 : Rel σ σ1) (hL : L5_slits σ a k σ1) (hm : M6_slits σ1 a y σ2) : oOk k y σ2 := by
  obtain ⟨⟨n4, n15, n18⟩, ⟨n8, n9, n10⟩, n23, n24, n27⟩ := h1.2.1
  refine R_get h h1 (hL.imp id (fun q => ⟨q.1, q.2.1, q.2.2.2⟩)) hm (by unfold okC mkC; rw [n4]; omega) (fun q => ?_)
  have hs := (h1.2.2.1 a.toNat (by omega)).2.2
  have hi := hs.iff h.1.2.2.2.2.2.2.2.2.1
  rcases hs with ⟨s1, s2⟩ | ⟨p, s1, s2, s3, s4⟩
  · rw [if_pos s1, s2]
  · rw [if_neg (by omega), s2, s3, Int.toNat_natCast, (h1.2.2.2.2.2.2.2.1 p s1).1]
theorem KR_slitWeight {σ σ1 : oMem} {a b : Int} {k : Int} (h : Rel σ σ) (hL : L5_slitWeight σ a b k σ1) : Rel σ σ1 := by
  exact G_rel h (hL.imp id (fun q => ⟨q.1, q.2.1, q.2.2.2⟩))
theorem R5_slitWeight {σ σ1 σ2 : oMem} {a b : Int} {k y : Int} (h : Rel σ σ) (h1 : Rel σ σ1) (hL : L5_slitWeight σ a b k σ1) (hm : M6_slitWeight σ1 a b y σ2) : oOk k y σ2 := by
  obtain ⟨⟨n4, n15, n18⟩, ⟨n8, n9, n10⟩, n23, n24, n27⟩ := h1.2.1
  have hcm : (okC σ a ∧ 0 ≤ b ∧ b < σ 1 a.toNat 10) ↔ mkS σ1 a b := by
    unfold okC mkS mkC
    rw [n4]
    constructor
    · rintro ⟨q1, q2, q3⟩
      rcases (h1.2.2.1 a.toNat (by omega)).2.2 with ⟨s1, s2⟩ | ⟨p, s1, s2, s3, s4⟩
      · omega
      · have e := (h1.2.2.2.2.2.2.2.1 p s1).1
        refine ⟨by omega, by omega, q2, ?_⟩
        rw [s2, Int.toNat_natCast, e]
        omega
    · rintro ⟨q1, q2, q3, q4⟩
      rcases (h1.2.2.1 a.toNat (by omega)).2.2 with ⟨s1, s2⟩ | ⟨p, s1, s2, s3, s4⟩
      · exact absurd s1 q2
      · have e := (h1.2.2.2.2.2.2.2.1 p s1).1
        rw [s2, Int.toNat_natCast, e] at q4
        exact ⟨by omega, q3, by omega⟩
  refine R_get h h1 (hL.imp id (fun q => ⟨q.1, q.2.1, q.2.2.2⟩)) hm hcm (fun q => ?_)
  obtain ⟨q1, q2, q3⟩ := q
  rcases (h1.2.2.1 a.toNat (by omega)).2.2 with ⟨s1, s2⟩ | ⟨p, s1, s2, s3, s4⟩
  · omega
  · have s4 := s4 b.toNat (by omega)
    exact s4.2.1.symm
theorem KR_slitOrder {σ σ1 : oMem} {a b : Int} {k : Int} (h : Rel σ σ) (hL : L5_slitOrder σ a b k σ1) : Rel σ σ1 := by
  exact G_rel h (hL.imp id (fun q => ⟨q.1, q.2.1, q.2.2.2⟩))
theorem R5_slitOrder {σ σ1 σ2 : oMem} {a b : Int} {k y : Int} (h : Rel σ σ) (h1 : Rel σ σ1) (hL : L5_slitOrder σ a b k σ1) (hm : M6_slitOrder σ1 a b y σ2) : oOk k y σ2 := by
  obtain ⟨⟨n4, n15, n18⟩, ⟨n8, n9, n10⟩, n23, n24, n27⟩ := h1.2.1
  have hcm : (okC σ a ∧ 0 ≤ b ∧ b < σ 1 a.toNat 10) ↔ mkS σ1 a b := by
    unfold okC mkS mkC
    rw [n4]
    constructor
    · rintro ⟨q1, q2, q3⟩
      rcases (h1.2.2.1 a.toNat (by omega)).2.2 with ⟨s1, s2⟩ | ⟨p, s1, s2, s3, s4⟩
      · omega
      · have e := (h1.2.2.2.2.2.2.2.1 p s1).1
        refine ⟨by omega, by omega, q2, ?_⟩
        rw [s2, Int.toNat_natCast, e]
        omega
    · rintro ⟨q1, q2, q3, q4⟩
      rcases (h1.2.2.1 a.toNat (by omega)).2.2 with ⟨s1, s2⟩ | ⟨p, s1, s2, s3, s4⟩
      · exact absurd s1 q2
      · have e := (h1.2.2.2.2.2.2.2.1 p s1).1
        rw [s2, Int.toNat_natCast, e] at q4
        exact ⟨by omega, q3, by omega⟩
  refine R_get h h1 (hL.imp id (fun q => ⟨q.1, q.2.1, q.2.2.2⟩)) hm hcm (fun q => ?_)
  obtain ⟨q1, q2, q3⟩ := q
  rcases (h1.2.2.1 a.toNat (by omega)).2.2 with ⟨s1, s2⟩ | ⟨p, s1, s2, s3, s4⟩
  · omega
  · have s4 := s4 b.toNat (by omega)
    exact s4.2.2.symm
theorem KR_delivered {σ σ1 : oMem} {a : Int} {k : Int} (h : Rel σ σ) (hL : L5_delivered σ a k σ1) : Rel σ σ1 := by
  exact G_rel h (hL.imp id (fun q => ⟨q.1, q.2.1, q.2.2.2⟩))
theorem R5_delivered {σ σ1 σ2 : oMem} {a : Int} {k y : Int} (h : Rel σ σ) (h1 : Rel σ σ1) (hL : L5_delivered σ a k σ1) (hm : M6_delivered σ1 a y σ2) : oOk k y σ2 := by
  obtain ⟨⟨n4, n15, n18⟩, ⟨n8, n9, n10⟩, n23, n24, n27⟩ := h1.2.1
  exact R_get h h1 (hL.imp id (fun q => ⟨q.1, q.2.1, q.2.2.2⟩)) hm (by unfold okO mkO; rw [n15]; omega) (fun q => (h1.2.2.2.2.2.1 a.toNat (by omega)).2.2.1.symm)
theorem KR_heatOf {σ σ1 : oMem} {a : Int} {k : Int} (h : Rel σ σ) (hL : L5_heatOf σ a k σ1) : Rel σ σ1 := by
  exact G_rel h (hL.imp id (fun q => ⟨q.1, q.2.1, q.2.2.2⟩))
theorem R5_heatOf {σ σ1 σ2 : oMem} {a : Int} {k y : Int} (h : Rel σ σ) (h1 : Rel σ σ1) (hL : L5_heatOf σ a k σ1) (hm : M6_heatOf σ1 a y σ2) : oOk k y σ2 := by
  obtain ⟨⟨n4, n15, n18⟩, ⟨n8, n9, n10⟩, n23, n24, n27⟩ := h1.2.1
  exact R_get h h1 (hL.imp id (fun q => ⟨q.1, q.2.1, q.2.2.2⟩)) hm (by unfold okO mkO; rw [n15]; omega) (fun q => (h1.2.2.2.2.2.1 a.toNat (by omega)).2.2.2.symm)
theorem KR_fits {σ σ1 : oMem} {a b : Int} {k : Int} (h : Rel σ σ) (hL : L5_fits σ a b k σ1) : Rel σ σ1 := by
  exact G_rel h (hL.imp (fun ⟨q1, z, s, q2, q3⟩ => ⟨q1, z, s, ⟨q2.1.1, q2.1.2, q2.2⟩, q3⟩) (fun q => ⟨q.1, q.2.1, q.2.2.2⟩))
theorem R5_fits {σ σ1 σ2 : oMem} {a b : Int} {k y : Int} (h : Rel σ σ) (h1 : Rel σ σ1) (hL : L5_fits σ a b k σ1) (hm : M6_fits σ1 a b y σ2) : oOk k y σ2 := by
  obtain ⟨⟨n4, n15, n18⟩, ⟨n8, n9, n10⟩, n23, n24, n27⟩ := h1.2.1
  refine R_get h h1 (hL.imp (fun ⟨q1, z, s, q2, q3⟩ => ⟨q1, z, s, ⟨q2.1.1, q2.1.2, q2.2⟩, q3⟩) (fun q => ⟨q.1, q.2.1, q.2.2.2⟩)) hm (by unfold okC okP mkC mkP; rw [n4, n18]; omega) (fun q => ?_)
  have hf := h1.fit (p := a.toNat) (c := b.toNat) (by omega) (by omega)
  by_cases c : o_fit σ a.toNat b.toNat
  · rw [if_pos c]; exact b2i_t (hf.mpr c)
  · rw [if_neg c]; exact b2i_f (fun z => c (hf.mp z))
theorem KR_lost {σ σ1 : oMem} {a b : Int} {k : Int} (h : Rel σ σ) (hL : L5_lost σ a b k σ1) : Rel σ σ1 := by
  rcases hL with ⟨rfl, z, σ0, ⟨rfl, hc, rfl⟩, rfl⟩ | ⟨rfl, rfl, hE⟩ | ⟨rfl, rfl, hE⟩
  · exact L_rel h (fun K h1 h2 => o_up_k (by omega))
  · exact h
  · exact h
theorem R5_lost {σ σ1 σ2 : oMem} {a b : Int} {k y : Int} (h : Rel σ σ) (h1 : Rel σ σ1) (hL : L5_lost σ a b k σ1) (hm : M6_lost σ1 a b y σ2) : oOk k y σ2 := by
  obtain ⟨⟨n4, n15, n18⟩, ⟨n8, n9, n10⟩, n23, n24, n27⟩ := h1.2.1
  obtain ⟨m1, m2⟩ := hm
  rw [show (mkC σ1 a ↔ okC σ a) from by unfold mkC okC; rw [n4]; omega] at m1
  have hl := h1.2.2.2.2.1 a.toNat
  have hi : okC σ a ↔ mkC σ1 a := by unfold mkC okC; rw [n4]; omega
  rcases hL with ⟨rfl, z, σ0, ⟨rfl, hc, rfl⟩, rfl⟩ | ⟨rfl, rfl, hE⟩ | ⟨rfl, rfl, hE⟩
  · rw [if_pos (hi.mp hc.1), if_pos hc.2] at m2
    refine ok_ret (σ0 := σ0) (z := σ0 1 a.toNat (11 + b.toNat)) (by rw [m2]; exact R_thr h1 0) (fun K hK => by rw [m2, o_up_k (by omega), o_up_k (by omega)]) (by rw [m2, o_up_k (by decide), o_up_s]) (by rw [m2, o_up_s]) ?_
    rw [m1 hc]
    have hb := hc.2
    rcases (show b.toNat = 0 ∨ b.toNat = 1 ∨ b.toNat = 2 by omega) with q | q | q <;> rw [q]
    · exact hl.1.symm
    · exact hl.2.1.symm
    · exact hl.2.2.symm
  · rcases hE with ⟨-, hE⟩ | ⟨q, -⟩
    · rw [if_neg (fun q => hE (hi.mpr q))] at m2
      exact ok_thr h (by decide) m2
    · exact absurd q.symm x_n2
  · rcases hE with ⟨q, -⟩ | ⟨-, hE, hE2⟩
    · exact absurd q x_n2
    · rw [if_pos (hi.mp hE), if_neg hE2] at m2
      exact ok_thr h (by decide) m2
theorem KR_coil {σ σ1 : oMem} {a b d e : Int} {k : Int} (h : Rel σ σ) (hL : L5_coil σ a b d e k σ1) : Rel σ σ1 := by
  rcases hL with ⟨rfl, w, σ0, ⟨rfl, hc, hn, h0⟩, h9⟩ | ⟨rfl, rfl, hE⟩ | ⟨rfl, rfl, hE⟩
  · refine L_rel h (fun K k1 k2 => ?_)
    rw [h9, o_up_k (by omega), h0]
    repeat rw [o_up_k (by omega)]
  · exact h
  · exact h
theorem R5_coil {σ σ1 σ2 : oMem} {a b d e : Int} {k y : Int} (h : Rel σ σ) (h1 : Rel σ σ1) (hL : L5_coil σ a b d e k σ1) (hm : M6_coil σ1 a b d e y σ2) : oOk k y σ2 := by
  obtain ⟨⟨n4, n15, n18⟩, ⟨n8, n9, n10⟩, n23, n24, n27⟩ := h1.2.1
  unfold M6_coil at hm
  rw [n4] at hm
  rcases hL with ⟨rfl, w, σ0, ⟨rfl, hc, hn, h0⟩, h9⟩ | ⟨rfl, rfl, hE⟩ | ⟨rfl, rfl, hE⟩
  · rw [if_pos ⟨hc, hn⟩] at hm
    obtain ⟨rfl, hm⟩ := hm
    have x1 := h.1.1
    obtain ⟨n, hnn⟩ : ∃ n : Nat, σ 0 0 1 = n := ⟨(σ 0 0 1).toNat, by omega⟩
    rw [hnn, Int.toNat_natCast] at h0 hm
    have hR := R_coil h1 hnn hc (by omega) h0 hm
    refine ok_ret hR (fun K hK => by rw [hm]; (repeat rw [o_up_k (by omega)]); rw [h9, o_up_k (by omega)]) (by rw [hm]; (repeat rw [o_up_k (by decide)]); rw [h9, o_up_s]) (by rw [hm]; simp [o_up]) rfl
  · rcases hE with ⟨-, hE⟩ | ⟨q, -⟩
    · rw [if_neg (fun q => hE q.1), if_neg hE] at hm
      exact ok_thr h (by decide) hm
    · exact absurd q x_n1
  · rcases hE with ⟨q, -⟩ | ⟨-, hE, hE2⟩
    · exact absurd q.symm x_n1
    · rw [if_neg (fun q => hE2 q.2), if_pos hE, if_neg hE2] at hm
      exact ok_thr h (by decide) hm
theorem KR_setRules {σ σ1 : oMem} {a b d : Int} {k : Int} (h : Rel σ σ) (hL : L5_setRules σ a b d k σ1) : Rel σ σ1 := by
  rcases hL with ⟨rfl, w, σ0, ⟨rfl, hc, h0⟩, h9⟩ | ⟨rfl, rfl, hE⟩
  · refine L_rel h (fun K k1 k2 => ?_)
    rw [h9, o_up_k (by omega), h0]
    repeat rw [o_up_k (by omega)]
  · exact h
theorem R5_setRules {σ σ1 σ2 : oMem} {a b d : Int} {k y : Int} (h : Rel σ σ) (h1 : Rel σ σ1) (hL : L5_setRules σ a b d k σ1) (hm : M6_setRules σ1 a b d y σ2) : oOk k y σ2 := by
  obtain ⟨⟨n4, n15, n18⟩, ⟨n8, n9, n10⟩, n23, n24, n27⟩ := h1.2.1
  unfold M6_setRules at hm
  rw [n8] at hm
  rcases hL with ⟨rfl, w, σ0, ⟨rfl, hc, h0⟩, h9⟩ | ⟨rfl, rfl, hE⟩
  · rw [if_pos hc] at hm
    obtain ⟨rfl, hm⟩ := hm
    have hR := R_rules h1 hc h0 hm
    refine ok_ret hR (fun K hK => by rw [hm]; (repeat rw [o_up_k (by omega)]); rw [h9, o_up_k (by omega)]) (by rw [hm]; (repeat rw [o_up_k (by decide)]); rw [h9, o_up_s]) (by rw [hm]; simp [o_up]) rfl
  · rw [if_neg hE.2] at hm
    exact ok_thr h (by decide) hm
theorem KR_order {σ σ1 : oMem} {a b : Int} {k : Int} (h : Rel σ σ) (hL : L5_order σ a b k σ1) : Rel σ σ1 := by
  rcases hL with ⟨rfl, w, σ0, ⟨rfl, hc, hn, h0⟩, h9⟩ | ⟨rfl, rfl, hE⟩ | ⟨rfl, rfl, hE⟩
  · refine L_rel h (fun K k1 k2 => ?_)
    rw [h9, o_up_k (by omega), h0]
    repeat rw [o_up_k (by omega)]
  · exact h
  · exact h
theorem R5_order {σ σ1 σ2 : oMem} {a b : Int} {k y : Int} (h : Rel σ σ) (h1 : Rel σ σ1) (hL : L5_order σ a b k σ1) (hm : M6_order σ1 a b y σ2) : oOk k y σ2 := by
  obtain ⟨⟨n4, n15, n18⟩, ⟨n8, n9, n10⟩, n23, n24, n27⟩ := h1.2.1
  unfold M6_order at hm
  rw [n15] at hm
  rcases hL with ⟨rfl, w, σ0, ⟨rfl, hc, hn, h0⟩, h9⟩ | ⟨rfl, rfl, hE⟩ | ⟨rfl, rfl, hE⟩
  · rw [if_pos ⟨hc, hn⟩] at hm
    obtain ⟨rfl, hm⟩ := hm
    have x1 := h.1.2.1
    obtain ⟨n, hnn⟩ : ∃ n : Nat, σ 0 0 3 = n := ⟨(σ 0 0 3).toNat, by omega⟩
    rw [hnn, Int.toNat_natCast] at h0 hm
    have hR := R_order h1 hnn hc (by omega) h0 hm
    refine ok_ret hR (fun K hK => by rw [hm]; (repeat rw [o_up_k (by omega)]); rw [h9, o_up_k (by omega)]) (by rw [hm]; (repeat rw [o_up_k (by decide)]); rw [h9, o_up_s]) (by rw [hm]; simp [o_up]) rfl
  · rcases hE with ⟨-, hE⟩ | ⟨q, -⟩
    · rw [if_neg (fun q => hE q.1), if_neg hE] at hm
      exact ok_thr h (by decide) hm
    · exact absurd q x_n1
  · rcases hE with ⟨q, -⟩ | ⟨-, hE, hE2⟩
    · exact absurd q.symm x_n1
    · rw [if_neg (fun q => hE2 q.2), if_pos hE, if_neg hE2] at hm
      exact ok_thr h (by decide) hm
theorem KR_addSlit {σ σ1 : oMem} {a : Int} {k : Int} (h : Rel σ σ) (hL : L5_addSlit σ a k σ1) : Rel σ σ1 := by
  rcases hL with ⟨rfl, w, σ0, ⟨rfl, hc, hn, h0⟩, h9⟩ | ⟨rfl, rfl, hE⟩ | ⟨rfl, rfl, hE⟩
  · refine L_rel h (fun K k1 k2 => ?_)
    rw [h9, o_up_k (by omega), h0]
    repeat rw [o_up_k (by omega)]
  · exact h
  · exact h
theorem R5_addSlit {σ σ1 σ2 : oMem} {a : Int} {k y : Int} (h : Rel σ σ) (h1 : Rel σ σ1) (hL : L5_addSlit σ a k σ1) (hm : M6_addSlit σ1 a y σ2) : oOk k y σ2 := by
  have hD := h1.2.2.2.2.2.2.2.2.1.1
  unfold M6_addSlit at hm
  rw [hD] at hm
  rcases hL with ⟨rfl, w, σ0, ⟨rfl, hc, hn, h0⟩, h9⟩ | ⟨rfl, rfl, hE⟩ | ⟨rfl, rfl, hE⟩
  · rw [if_pos ⟨hc, hn⟩] at hm
    obtain ⟨rfl, hm⟩ := hm
    have x1 := h.1.2.2.2.2.2.2.2.2.2.1.1
    obtain ⟨n, hnn⟩ : ∃ n : Nat, σ 8 10 1 = n := ⟨(σ 8 10 1).toNat, by omega⟩
    rw [hnn, Int.toNat_natCast] at h0 hm
    have hR := R_addSlit h1 hnn hc (by omega) h0 hm
    refine ok_ret hR (fun K hK => by rw [hm]; (repeat rw [o_up_k (by omega)]); rw [h9, o_up_k (by omega)]) (by rw [hm]; (repeat rw [o_up_k (by decide)]); rw [h9, o_up_s]) (by rw [hm]; simp [o_up]) rfl
  · rcases hE with ⟨-, hE⟩ | ⟨q, -⟩
    · rw [if_neg (fun q => hE q.1), if_neg hE] at hm
      exact ok_thr h (by decide) hm
    · exact absurd q x_n1
  · rcases hE with ⟨q, -⟩ | ⟨-, hE, hE2⟩
    · exact absurd q.symm x_n1
    · rw [if_neg (fun q => hE2 q.2), if_pos hE, if_neg hE2] at hm
      exact ok_thr h (by decide) hm
theorem KR_keep {σ σ1 : oMem} {k : Int} (h : Rel σ σ) (hL : L5_keep σ k σ1) : Rel σ σ1 := by
  rcases hL with ⟨rfl, w, σ0, ⟨rfl, hc, h0⟩, h9⟩ | ⟨rfl, rfl, hE⟩
  · refine L_rel h (fun K k1 k2 => ?_)
    rw [h9, o_up_k (by omega), h0]
    repeat rw [o_up_k (by omega)]
    rw [o_bl_k (by omega)]
  · exact h
theorem R5_keep {σ σ1 σ2 : oMem} {k y : Int} (h : Rel σ σ) (h1 : Rel σ σ1) (hL : L5_keep σ k σ1) (hm : M6_keep σ1 y σ2) : oOk k y σ2 := by
  obtain ⟨⟨n4, n15, n18⟩, ⟨n8, n9, n10⟩, n23, n24, n27⟩ := h1.2.1
  have hD := h1.2.2.2.2.2.2.2.2.1.1
  unfold M6_keep at hm
  rw [hD, n18] at hm
  rcases hL with ⟨rfl, w, σ0, ⟨rfl, hc, h0⟩, h9⟩ | ⟨rfl, rfl, hE⟩
  · rw [if_pos hc] at hm
    obtain ⟨rfl, hm⟩ := hm
    have x1 := h.1.2.2.2.2.2.2.2.2.2.1.1
    have x5 := h.1.2.2.1
    obtain ⟨n, hnn⟩ : ∃ n : Nat, σ 0 0 5 = n := ⟨(σ 0 0 5).toNat, by omega⟩
    obtain ⟨r, hrr⟩ : ∃ n : Nat, σ 8 10 1 = n := ⟨(σ 8 10 1).toNat, by omega⟩
    rw [hnn, hrr, Int.toNat_natCast, Int.toNat_natCast] at h0 hm
    have hR := R_keep h1 hnn (by omega) hrr h0 hm
    refine ok_ret hR (fun K hK => by rw [hm, o_up_k (by omega), o_up_k (by omega), o_bs_k (by omega), o_up_k (by omega), o_up_k (by omega), h9, o_up_k (by omega)]) (by rw [hm, o_up_k (by decide), o_up_k (by decide), o_bs_k (by decide), o_up_k (by decide), o_up_k (by decide), h9, o_up_s]) (by rw [hm, o_up_j (by decide), o_up_k (by decide), o_bs_k (by decide), o_up_k (by decide), o_up_s]) rfl
  · rw [if_neg hE.2] at hm
    exact ok_thr h (by decide) hm
theorem KR_plan {σ σ1 : oMem} {a b : Int} {k : Int} (h : Rel σ σ) (hL : L5_plan σ a b k σ1) : Rel σ σ1 := by
  rcases hL with ⟨rfl, w, σ0, ⟨hp, hc, rfl, h0⟩, h9⟩ | ⟨rfl, rfl, hE⟩ | ⟨rfl, rfl, hE⟩
  · refine L_rel h (fun K k1 k2 => ?_)
    rw [h9, o_up_k (by omega), h0]
    repeat rw [o_up_k (by omega)]
  · exact h
  · exact h
theorem R5_plan {σ σ1 σ2 : oMem} {a b : Int} {k y : Int} (h : Rel σ σ) (h1 : Rel σ σ1) (hL : L5_plan σ a b k σ1) (hm : M6_plan σ1 a b y σ2) : oOk k y σ2 := by
  obtain ⟨⟨n4, n15, n18⟩, ⟨n8, n9, n10⟩, n23, n24, n27⟩ := h1.2.1
  obtain ⟨m1, m2, m3⟩ := hm
  have hi : (okC σ a ∧ okP σ b) ↔ (mkC σ1 a ∧ mkP σ1 b) := by unfold okC okP mkC mkP; rw [n4, n18]; omega
  have hq : (okC σ a ∧ okP σ b) → ((σ 1 a.toNat 10 = -1 ∧ o_fit σ b.toNat a.toNat ∧ (∀ i : Nat, (i : Int) < σ 0 0 14 → σ 17 0 i ≠ a) ∧ σ 0 0 14 < 7) ↔ (((mkC σ1 a ∧ mkP σ1 b) ∧ σ1 38 0 a.toNat = -1 ∧ mFit σ1 b.toNat a.toNat ∧ σ1 24 0 27 < 7) ∧ ∀ k : Nat, (k : Int) < σ1 24 0 27 → σ1 42 0 k ≠ a)) := fun hp => by
    have hs := (h1.2.2.1 a.toNat (by omega)).2.2.iff h.1.2.2.2.2.2.2.2.2.1
    have hf := h1.fit (p := b.toNat) (c := a.toNat) (by omega) (by omega)
    have hw := h1.2.2.2.2.2.2.2.2.2
    rw [n27]
    constructor
    · rintro ⟨q1, q2, q3, q4⟩
      exact ⟨⟨hi.mp hp, hs.mp q1, hf.mpr q2, q4⟩, fun i hi => by rw [(hw i hi).1]; exact q3 i hi⟩
    · rintro ⟨⟨q0, q1, q2, q4⟩, q3⟩
      exact ⟨hs.mpr q1, hf.mp q2, fun i hi => by have := q3 i hi; rw [(hw i hi).1] at this; exact this, q4⟩
  rcases hL with ⟨rfl, w, σ0, ⟨hp, hc, rfl, h0⟩, h9⟩ | ⟨rfl, rfl, hE⟩ | ⟨rfl, rfl, hE⟩
  · obtain ⟨rfl, hm⟩ := m1 ⟨hi.mp hp, (hq hp).mp hc⟩
    have x1 := h.1.2.2.2.2.2.1
    rw [n27] at hm
    obtain ⟨n, hnn⟩ : ∃ n : Nat, σ 0 0 14 = n := ⟨(σ 0 0 14).toNat, by omega⟩
    rw [hnn, Int.toNat_natCast] at h0 hm
    have hR := R_plan h1 hnn hp.1 hp.2 (by omega) h0 hm
    refine ok_ret hR (fun K hK => by rw [hm]; (repeat rw [o_up_k (by omega)]); rw [h9, o_up_k (by omega)]) (by rw [hm]; (repeat rw [o_up_k (by decide)]); rw [h9, o_up_s]) (by rw [hm]; simp [o_up]) n27.symm
  · rcases hE with ⟨-, hE⟩ | ⟨q, -⟩
    · exact ok_thr h (by decide) (m2 (fun q => hE (hi.mpr q)))
    · exact absurd q.symm x_n3
  · rcases hE with ⟨q, -⟩ | ⟨-, hE, hE2⟩
    · exact absurd q x_n3
    · exact ok_thr h (by decide) (m3 (hi.mp hE) (fun q => hE2 ((hq hE).mpr q)))
theorem KR_run {σ σ1 : oMem} {a b : Int} {k : Int} (h : Rel σ σ) (hL : L5_run σ a b k σ1) : Rel σ σ1 := by
  rcases hL with ⟨rfl, w, σ0, ⟨hp, hc, rfl, h0⟩, h9⟩ | ⟨rfl, rfl, hE⟩ | ⟨rfl, rfl, hE⟩
  · refine L_rel h (fun K k1 k2 => ?_)
    rw [h9, o_up_k (by omega), h0, run_k (by omega) (by omega), sc_k (by omega) (by omega) (by omega) (by omega)]
  · exact h
  · exact h
theorem R5_run {σ σ1 σ2 : oMem} {a b : Int} {k y : Int} (h : Rel σ σ) (h1 : Rel σ σ1) (hL : L5_run σ a b k σ1) (hm : M6_run σ1 a b y σ2) : oOk k y σ2 := by
  obtain ⟨⟨n4, n15, n18⟩, ⟨n8, n9, n10⟩, n23, n24, n27⟩ := h1.2.1
  unfold M6_run at hm
  have hi : (okC σ a ∧ okP σ b) ↔ (mkC σ1 a ∧ mkP σ1 b) := by unfold okC okP mkC mkP; rw [n4, n18]; omega
  have hq : (okC σ a ∧ okP σ b) → ((σ 1 a.toNat 10 = -1 ∧ o_fit σ b.toNat a.toNat) ↔ ((mkC σ1 a ∧ mkP σ1 b) ∧ σ1 38 0 a.toNat = -1 ∧ mFit σ1 b.toNat a.toNat)) := fun hp => by
    have hs := (h1.2.2.1 a.toNat (by omega)).2.2.iff h.1.2.2.2.2.2.2.2.2.1
    have hf := h1.fit (p := b.toNat) (c := a.toNat) (by omega) (by omega)
    exact ⟨fun q => ⟨hi.mp hp, hs.mp q.1, hf.mpr q.2⟩, fun q => ⟨hs.mpr q.2.1, hf.mp q.2.2⟩⟩
  rcases hL with ⟨rfl, w, σ0, ⟨hp, hc, rfl, h0⟩, h9⟩ | ⟨rfl, rfl, hE⟩ | ⟨rfl, rfl, hE⟩
  · rw [if_pos ⟨hi.mp hp, (hq hp).mp hc⟩] at hm
    obtain ⟨rfl, hm⟩ := hm
    have hR := R_run (c := a.toNat) (p := b.toNat) (R_thr h1 0) (by omega) (by omega) hc.2
    refine ok_ret (σ0 := σ0) (by rw [h0, hm]; exact hR.1) (fun K hK => by rw [hm, mRun_k (by omega) (by omega) (by omega) (by omega) (by omega) (by omega) (by omega), o_up_k (by omega), h9, o_up_k (by omega)]) (by rw [hm, mRun_k (by decide) (by decide) (by decide) (by decide) (by decide) (by decide) (by decide), o_up_k (by decide), h9, o_up_s]) (by rw [hm, mRun_24, if_neg (by decide), if_neg (by decide), o_up_s]) hR.2
  · rcases hE with ⟨-, hE⟩ | ⟨q, -⟩
    · rw [if_neg (fun q => hE (hi.mpr q.1)), if_neg (fun q => hE (hi.mpr q))] at hm
      exact ok_thr h (by decide) hm
    · exact absurd q.symm x_n3
  · rcases hE with ⟨q, -⟩ | ⟨-, hE, hE2⟩
    · exact absurd q x_n3
    · rw [if_neg (fun q => hE2 ((hq hE).mpr q.2)), if_pos (hi.mp hE), if_neg (fun q => hE2 ((hq hE).mpr q))] at hm
      exact ok_thr h (by decide) hm
theorem KR_defect {σ σ1 : oMem} {a b d : Int} {k : Int} (h : Rel σ σ) (hL : L5_defect σ a b d k σ1) : Rel σ σ1 := by
  rcases hL with ⟨rfl, w, σ0, ⟨hp, hb, hc, hz, pl, p1, p2, p3, h0⟩, h9⟩ | ⟨rfl, rfl, hE⟩ | ⟨rfl, rfl, hE⟩ | ⟨rfl, rfl, hE⟩
  · refine L_rel h (fun K k1 k2 => ?_)
    rw [h9, o_up_k (by omega), h0, o_up_k (by omega), o_rw_k (by omega), o_rw_k (by omega)]
  · exact h
  · exact h
  · exact h
theorem R5_defect {σ σ1 σ2 : oMem} {a b d : Int} {k y : Int} (h : Rel σ σ) (h1 : Rel σ σ1) (hL : L5_defect σ a b d k σ1) (hm : M6_defect σ1 a b d y σ2) : oOk k y σ2 := by
  obtain ⟨⟨n4, n15, n18⟩, ⟨n8, n9, n10⟩, n23, n24, n27⟩ := h1.2.1
  unfold M6_defect at hm
  have hi : okC σ a ↔ mkC σ1 a := by unfold okC mkC; rw [n4]; omega
  have hb9 : okC σ a → (((0 ≤ b ∧ b ≤ σ 1 a.toNat 2 - 1) ∧ (b + 1 ≤ d ∧ d ≤ σ 1 a.toNat 2)) ↔ (mkC σ1 a ∧ (0 ≤ b ∧ b ≤ σ1 27 0 a.toNat - 1) ∧ (b + 1 ≤ d ∧ d ≤ σ1 27 0 a.toNat))) := fun hp => by
    have e := (h1.2.2.1 a.toNat (by omega)).1.2.2.1
    rw [e]
    exact ⟨fun q => ⟨hi.mp hp, q⟩, fun q => q.2⟩
  have hq : okC σ a → ((σ 1 a.toNat 10 = -1 ∧ σ 1 a.toNat 6 < 8) ↔ (mkC σ1 a ∧ σ1 38 0 a.toNat = -1 ∧ σ1 31 0 a.toNat < 8)) := fun hp => by
    have hs := (h1.2.2.1 a.toNat (by omega)).2.2.iff h.1.2.2.2.2.2.2.2.2.1
    have e := (h1.2.2.1 a.toNat (by omega)).2.1.1
    rw [e]
    exact ⟨fun q => ⟨hi.mp hp, hs.mp q.1, q.2⟩, fun q => ⟨hs.mpr q.2.1, q.2.2⟩⟩
  rcases hL with ⟨rfl, w, σ0, ⟨hp, hb, hc, hz, pl, p1, p2, p3, h0⟩, h9⟩ | ⟨rfl, rfl, hE⟩ | ⟨rfl, rfl, hE⟩ | ⟨rfl, rfl, hE⟩
  · rw [if_pos ⟨hi.mp hp, (hb9 hp).mp hb, (hq hp).mp hc⟩] at hm
    obtain ⟨hm, hy⟩ := hm
    have e := (h1.2.2.1 a.toNat (by omega)).2.1.1
    have x6 := (h.1.2.2.2.2.2.2.1 a.toNat (by omega)).1.2.2.2.2.1.1
    rw [e] at hm
    obtain ⟨n, hnn⟩ : ∃ n : Nat, σ 1 a.toNat 6 = n := ⟨(σ 1 a.toNat 6).toNat, by omega⟩
    rw [hnn, Int.toNat_natCast] at h0 hm
    rw [hnn] at p1 p3
    have hR := R_defect h1 (c := a.toNat) (n := n) (pl := pl) (by omega) hnn (by omega) hb (by omega) p2 (fun j hj1 hj2 => p3 j hj1 (by omega)) h0 hm
    refine ok_ret (z := w) hR.1 (fun K hK => by rw [hm]; (repeat rw [o_up_k (by omega)]); rw [h9, o_up_k (by omega)]) (by rw [hm]; (repeat rw [o_up_k (by decide)]); rw [h9, o_up_s]) (by rw [hm]; simp [o_up]) (by rw [hz, hy, hR.2])
  · rcases hE with ⟨-, hE⟩ | ⟨q, -⟩ | ⟨q, -⟩
    · rw [if_neg (fun q => hE (hi.mpr q.1)), if_neg (fun q => hE (hi.mpr q))] at hm
      exact ok_thr h (by decide) hm
    · exact absurd q.symm x_n2
    · exact absurd q.symm x_n3
  · rcases hE with ⟨q, -⟩ | ⟨-, hE, hE2⟩ | ⟨q, -⟩
    · exact absurd q x_n2
    · rw [if_neg (fun q => hE2 ((hb9 hE).mpr q.2.1)), if_pos (hi.mp hE), if_neg (fun q => hE2 ((hb9 hE).mpr q))] at hm
      exact ok_thr h (by decide) hm
    · exact absurd q x_n1
  · rcases hE with ⟨q, -⟩ | ⟨q, -⟩ | ⟨-, hE, hE2, hE3⟩
    · exact absurd q x_n3
    · exact absurd q.symm x_n1
    · rw [if_neg (fun q => hE3 ((hq hE).mpr q.2.2)), if_pos (hi.mp hE), if_pos ((hb9 hE).mp hE2), if_neg (fun q => hE3 ((hq hE).mpr q))] at hm
      exact ok_thr h (by decide) hm
theorem KR_fill {σ σ1 : oMem} {a : Int} {k : Int} (h : Rel σ σ) (hL : L5_fill σ a k σ1) : Rel σ σ1 := by
  rcases hL with ⟨rfl, w, σ0, ⟨hp, hG, hF, hT, hk, hk8⟩, h9⟩ | ⟨rfl, rfl, hE⟩
  · refine L_rel h (fun K k1 k2 => ?_)
    rw [h9, o_up_k (by omega), hk K (by omega) (by omega) (by omega) (by omega) (by omega)]
  · exact h
theorem R5_fill {σ σ1 σ2 : oMem} {a : Int} {k y : Int} (h : Rel σ σ) (h1 : Rel σ σ1) (hL : L5_fill σ a k σ1) (hm : M6_fill σ1 a y σ2) : oOk k y σ2 := by
  obtain ⟨⟨n4, n15, n18⟩, ⟨n8, n9, n10⟩, n23, n24, n27⟩ := h1.2.1
  unfold M6_fill at hm
  have hi : okC σ a ↔ mkC σ1 a := by unfold okC mkC; rw [n4]; omega
  rcases hL with ⟨rfl, w, σ0, ⟨hp, hG, hF, hT, hk, hk8⟩, h9⟩ | ⟨rfl, rfl, hE⟩
  · rw [if_pos (hi.mp hp)] at hm
    have ea : ((a.toNat : Nat) : Int) = a := by omega
    have hR := R_fill (c := a.toNat) h1 (by omega) hG hF hT hk hk8 (by rw [ea]; exact hm)
    obtain ⟨g1, g2, m1, m2, m3, m4⟩ := hm
    refine ok_ret hR.1 (fun K hK => by rw [m1 K (by omega) (by omega) (by omega) (by omega), h9, o_up_k (by omega)]) (by rw [m1 47 (by decide) (by decide) (by decide) (by decide), h9, o_up_s]) (by rw [m4, o_up_s]) hR.2
  · rw [if_neg (fun q => hE.2 (hi.mpr q))] at hm
    exact ok_thr h (by decide) hm
theorem KR_fullestByTrying {σ σ1 : oMem} {a : Int} {k : Int} (h : Rel σ σ) (hL : L5_fullestByTrying σ a k σ1) : Rel σ σ1 := by
  rcases hL with ⟨rfl, w, σ0, ⟨hp, h8, hG, hk⟩, h9⟩ | ⟨rfl, rfl, hE⟩ | ⟨rfl, rfl, hE⟩
  · refine L_rel h (fun K k1 k2 => ?_)
    rw [h9, o_up_k (by omega), hk K (by omega) (by omega)]
  · exact h
  · exact h
/-- a throw, where a row of the model's own may have changed -/
theorem ok_thr44 {σ σ2 : oMem} {k b : Int} (h : Rel σ σ) (hk : 1 ≤ k ∧ k ≤ 3) (h2 : ∀ K, K ≠ 44 → K ≠ 45 → K ≠ 46 → σ2 K = o_up σ 24 0 31 k K) : oOk k b σ2 := by
  have hR : Rel σ σ2 := Rel_cg (R_thr h k) h.tm.1 h.tm.2 (fun _ _ => rfl) rfl rfl (fun K h1 h3 => h2 K (by omega) (by omega) (by omega)) (fun j _ => by rw [h2 24 (by decide) (by decide) (by decide)])
  exact ⟨by rw [h2 24 (by decide) (by decide) (by decide), o_up_s], fun q => by omega, hR.fin (fun K hK => by rw [h2 K (by omega) (by omega) (by omega), o_up_k (by omega)]), by omega, hk.2⟩
theorem R5_fullestByTrying {σ σ1 σ2 : oMem} {a : Int} {k y : Int} (h : Rel σ σ) (h1 : Rel σ σ1) (hL : L5_fullestByTrying σ a k σ1) (hm : M6_fullestByTrying σ1 a y σ2) : oOk k y σ2 := by
  obtain ⟨⟨n4, n15, n18⟩, ⟨n8, n9, n10⟩, n23, n24, n27⟩ := h1.2.1
  obtain ⟨m1, m2⟩ := hm
  have hi : okC σ a ↔ mkC σ1 a := by unfold okC mkC; rw [n4]; omega
  rw [n10] at m1
  simp only [n10] at m2
  rcases hL with ⟨rfl, w, σ0, ⟨hp, h8, hG, hk⟩, h9⟩ | ⟨rfl, rfl, hE⟩ | ⟨rfl, rfl, hE⟩
  · have m1 := m1 ⟨hi.mp hp, h8⟩
    rw [if_pos (hi.mp hp), if_pos h8] at m2
    have hcc := (h1.2.2.1 a.toNat (by omega)).1
    rw [hcc.2.2.2, hcc.1, n8] at m1
    have hz := isG_uniq (isG_cong (fun v => h1.wt _ v) hG) m1
    have hR : Rel σ0 σ2 := Rel_cg (R_thr h1 0) (by rw [TB_cong (hk 12 (by decide) (by decide))]; exact h.tm.1) (by unfold OM; rw [hk 14 (by decide) (by decide), hk 15 (by decide) (by decide)]; exact h.tm.2) (fun K hK => hk K (by omega) (by omega)) (hk 17 (by decide) (by decide)) (hk 18 (by decide) (by decide)) (fun K k1 k2 => m2 K (by omega)) (fun j _ => by rw [m2 24 (by decide)])
    refine ok_ret hR (fun K hK => by rw [m2 K (by omega), o_up_k (by omega), h9, o_up_k (by omega)]) (by rw [m2 47 (by decide), o_up_k (by decide), h9, o_up_s]) (by rw [m2 24 (by decide), o_up_s]) hz
  · rcases hE with ⟨-, hE⟩ | ⟨q, -⟩
    · rw [if_neg (fun q => hE (hi.mpr q))] at m2
      exact ok_thr44 h (by decide) (fun K k1 _ _ => m2 K k1)
    · exact absurd q.symm x_n3
  · rcases hE with ⟨q, -⟩ | ⟨-, hE, hE2⟩
    · exact absurd q x_n3
    · rw [if_pos (hi.mp hE), if_neg hE2] at m2
      exact ok_thr44 h (by decide) (fun K k1 _ _ => m2 K k1)
theorem KR_nextAt {σ σ1 : oMem} {a : Int} {k : Int} (h : Rel σ σ) (hL : L5_nextAt σ a k σ1) : Rel σ σ1 := by
  rcases hL with ⟨rfl, w, σ0, ⟨hp, hq, hM, hk⟩, h9⟩ | ⟨rfl, rfl, hE⟩
  · refine L_rel h (fun K k1 k2 => ?_)
    rw [h9, o_up_k (by omega), hk K (by omega) (by omega) (by omega)]
  · exact h
theorem R5_nextAt {σ σ1 σ2 : oMem} {a : Int} {k y : Int} (h : Rel σ σ) (h1 : Rel σ σ1) (hL : L5_nextAt σ a k σ1) (hm : M6_nextAt σ σ1 a y σ2) : oOk k y σ2 := by
  obtain ⟨⟨n4, n15, n18⟩, ⟨n8, n9, n10⟩, n23, n24, n27⟩ := h1.2.1
  obtain ⟨m1, m2⟩ := hm
  rw [n27] at m1
  simp only [n27] at m2
  rcases hL with ⟨rfl, w, σ0, ⟨hp, ⟨q, q1, q2⟩, hM, hk⟩, h9⟩ | ⟨rfl, rfl, hE⟩
  · obtain ⟨r, r1, r2⟩ := m1 (by omega)
    rw [if_pos (by omega)] at m2
    have x14 := h.1.2.2.2.2.2.1
    have hz := isBest_uniq (by omega) (fun _ _ _ _ => rfl) q1 r1 a.toNat (by omega)
    have hR : Rel σ0 σ2 := Rel_cg (R_thr h1 0) (by rw [TB_cong (hk 12 (by decide) (by decide) (by decide))]; exact h.tm.1) hM (fun K hK => hk K (by omega) (by omega) (by omega)) (hk 17 (by decide) (by decide) (by decide)) (hk 18 (by decide) (by decide) (by decide)) (fun K k1 k2 => m2 K (by omega) (by omega)) (fun j _ => by rw [m2 24 (by decide) (by decide)])
    refine ok_ret hR (fun K hK => by rw [m2 K (by omega) (by omega), o_up_k (by omega), h9, o_up_k (by omega)]) (by rw [m2 47 (by decide) (by decide), o_up_k (by decide), h9, o_up_s]) (by rw [m2 24 (by decide) (by decide), o_up_s]) (by rw [q2, r2, hz])
  · have hE := hE.2
    rw [if_neg (by omega)] at m2
    exact ok_thr44 h (by decide) (fun K _ k1 k2 => m2 K k1 k2)
theorem KR_clearDraft {σ σ1 : oMem} {k : Int} (h : Rel σ σ) (hL : P5_clearDraft σ k σ1) : Rel σ σ1 := by
  obtain ⟨rfl, rfl⟩ := hL
  exact L_rel h (fun K k1 k2 => o_up_k (by omega))
theorem R5_clearDraft {σ σ1 σ2 : oMem} {k y : Int} (h : Rel σ σ) (h1 : Rel σ σ1) (hL : P5_clearDraft σ k σ1) (hm : M6_clearDraft σ1 y σ2) : k = y ∧ Rel σ2 σ2 := by
  have hD := h1.2.2.2.2.2.2.2.2.1.1
  obtain ⟨rfl, h0⟩ := hL
  obtain ⟨rfl, h2⟩ := hm
  exact ⟨hD.symm, (R_draft0 h1 h0 h2).fin (fun K hK => by rw [h2, o_up_k (by omega), o_up_k (by omega)])⟩
theorem KR_draftSlits {σ σ1 : oMem} {k : Int} (h : Rel σ σ) (hL : P5_draftSlits σ k σ1) : Rel σ σ1 := by
  obtain ⟨rfl, rfl⟩ := hL
  exact h
theorem R5_draftSlits {σ σ1 σ2 : oMem} {k y : Int} (h : Rel σ σ) (h1 : Rel σ σ1) (hL : P5_draftSlits σ k σ1) (hm : M6_draftSlits σ1 y σ2) : k = y ∧ Rel σ2 σ2 := by
  have e := h1.2.2.2.2.2.2.2.2.1.1.symm
  obtain ⟨rfl, rfl⟩ := hL
  obtain ⟨rfl, h2⟩ := hm
  exact ⟨e, by rw [h2]; exact (R_thr h1 0).fin (fun K hK => o_up_k (by omega))⟩
theorem KR_moved {σ σ1 : oMem} {k : Int} (h : Rel σ σ) (hL : P5_moved σ k σ1) : Rel σ σ1 := by
  obtain ⟨rfl, rfl⟩ := hL
  exact h
theorem R5_moved {σ σ1 σ2 : oMem} {k y : Int} (h : Rel σ σ) (h1 : Rel σ σ1) (hL : P5_moved σ k σ1) (hm : M6_moved σ1 y σ2) : k = y ∧ Rel σ2 σ2 := by
  have e := h1.2.1.2.2.2.1.symm
  obtain ⟨rfl, rfl⟩ := hL
  obtain ⟨rfl, h2⟩ := hm
  exact ⟨e, by rw [h2]; exact (R_thr h1 0).fin (fun K hK => o_up_k (by omega))⟩
theorem KR_waiting {σ σ1 : oMem} {k : Int} (h : Rel σ σ) (hL : P5_waiting σ k σ1) : Rel σ σ1 := by
  obtain ⟨rfl, rfl⟩ := hL
  exact h
theorem R5_waiting {σ σ1 σ2 : oMem} {k y : Int} (h : Rel σ σ) (h1 : Rel σ σ1) (hL : P5_waiting σ k σ1) (hm : M6_waiting σ1 y σ2) : k = y ∧ Rel σ2 σ2 := by
  have e := h1.2.1.2.2.2.2.symm
  obtain ⟨rfl, rfl⟩ := hL
  obtain ⟨rfl, h2⟩ := hm
  exact ⟨e, by rw [h2]; exact (R_thr h1 0).fin (fun K hK => o_up_k (by omega))⟩
theorem KR_fewestMoves {σ σ1 : oMem} {k : Int} (h : Rel σ σ) (hL : P5_fewestMoves σ k σ1) : Rel σ σ1 := by
  obtain ⟨rfl, hM, hk⟩ := hL
  exact L_rel h (fun K k1 k2 => hk K (by omega) (by omega))
theorem R5_fewestMoves {σ σ1 σ2 : oMem} {k y : Int} (h : Rel σ σ) (h1 : Rel σ σ1) (hL : P5_fewestMoves σ k σ1) (hm : M6_fewestMoves σ σ1 y σ2) : k = y ∧ Rel σ2 σ2 := by
  obtain ⟨rfl, hM, hk⟩ := hL
  obtain ⟨rfl, m2⟩ := hm
  refine ⟨rfl, ?_⟩
  have hR : Rel σ1 σ2 := Rel_cg (R_thr h1 0) (by rw [TB_cong (hk 12 (by decide) (by decide))]; exact h.tm.1) hM (fun K hK => hk K (by omega) (by omega)) (hk 17 (by decide) (by decide)) (hk 18 (by decide) (by decide)) (fun K k1 k2 => m2 K (by omega) (by omega)) (fun j _ => by rw [m2 24 (by decide) (by decide)])
  exact hR.fin (fun K hK => by rw [m2 K (by omega) (by omega), o_up_k (by omega)])
theorem KR_fewestByTrying {σ σ1 : oMem} {k : Int} (h : Rel σ σ) (hL : P5_fewestByTrying σ k σ1) : Rel σ σ1 := by
  obtain ⟨rfl, hM, hk⟩ := hL
  exact L_rel h (fun K k1 k2 => hk K (by omega) (by omega))
theorem R5_fewestByTrying {σ σ1 σ2 : oMem} {k y : Int} (h : Rel σ σ) (h1 : Rel σ σ1) (hL : P5_fewestByTrying σ k σ1) (hm : M6_fewestByTrying σ σ1 y σ2) : k = y ∧ Rel σ2 σ2 := by
  obtain ⟨rfl, hM, hk⟩ := hL
  obtain ⟨rfl, m2⟩ := hm
  refine ⟨rfl, ?_⟩
  have hR : Rel σ1 σ2 := Rel_cg (R_thr h1 0) (by rw [TB_cong (hk 12 (by decide) (by decide))]; exact h.tm.1) hM (fun K hK => hk K (by omega) (by omega)) (hk 17 (by decide) (by decide)) (hk 18 (by decide) (by decide)) (fun K k1 k2 => m2 K (by omega) (by omega)) (fun j _ => by rw [m2 24 (by decide) (by decide)])
  exact hR.fin (fun K hK => by rw [m2 K (by omega) (by omega), o_up_k (by omega)])
theorem KR_runAll {σ σ1 : oMem} {k : Int} (h : Rel σ σ) (hL : P5_runAll σ k σ1) : Rel σ σ1 := by
  obtain ⟨q, μ, q1, q2, hM, rfl, h0⟩ := hL
  refine L_rel h (fun K k1 k2 => ?_)
  rw [h0, o_up_k (by omega), ra_k (by omega) (by omega) (by omega) (by omega) (by omega) (by omega), q2 K (by omega) (by omega) (by omega)]
theorem R5_runAll {σ σ1 σ2 : oMem} {k y : Int} (h : Rel σ σ) (h1 : Rel σ σ1) (hL : P5_runAll σ k σ1) (hm : M6_runAll σ σ1 y σ2) : k = y ∧ Rel σ2 σ2 := by
  obtain ⟨q, μ, q1, q2, hM, rfl, h0⟩ := hL
  obtain ⟨r, ν, r1, r2, rfl, h2⟩ := hm
  have x14 := h.1.2.2.2.2.2.1
  have hqr := isBest_uniq (by omega) (fun _ _ _ _ => rfl) q1 r1
  rw [← mRa_cg (q := q) (q' := r) _ hqr] at h2 ⊢
  have hR : Rel μ ν := Rel_cg (R_thr h1 0) (by rw [TB_cong (q2 12 (by decide) (by decide) (by decide))]; exact h.tm.1) hM (fun K hK => q2 K (by omega) (by omega) (by omega)) (q2 17 (by decide) (by decide) (by decide)) (q2 18 (by decide) (by decide) (by decide)) (fun K k1 k2 => r2 K (by omega) (by omega)) (fun j _ => by rw [r2 24 (by decide) (by decide)])
  have hA := R_ra hR (n := (σ 0 0 14).toNat) (by rw [q2 0 (by decide) (by decide) (by decide)]; omega) (isBest_lt q1) _ (Nat.le_refl _)
  refine ⟨hA.2, (R_done hA.1 h0 h2).fin (fun K hK => ?_)⟩
  rw [h2, o_up_k (by omega), mRa_k (by omega) (by omega) (by omega) (by omega) (by omega) (by omega) (by omega), r2 K (by omega) (by omega), o_up_k (by omega)]
theorem KR_stock {σ σ1 : oMem} {a : Int} {k : Int} (h : Rel σ σ) (hL : P5_stock σ a k σ1) : Rel σ σ1 := by
  obtain ⟨rfl, rfl⟩ := hL
  exact h
theorem R5_stock {σ σ1 σ2 : oMem} {a : Int} {k y : Int} (h : Rel σ σ) (h1 : Rel σ σ1) (hL : P5_stock σ a k σ1) (hm : M6_stock σ1 a y σ2) : k = y ∧ Rel σ2 σ2 := by
  have n4 := h1.2.1.1.1
  have xC := h.1.2.2.2.2.2.2.1
  have x1 := h.1.1
  have xP := h.1.2.2.2.2.2.2.2.2.1
  have hC := h1.2.2.1
  have hP := h1.2.2.2.2.2.2.2.1
  obtain ⟨rfl, rfl⟩ := hL
  obtain ⟨rfl, h2⟩ := hm
  refine ⟨?_, by rw [h2]; exact (R_thr h1 0).fin (fun K hK => o_up_k (by omega))⟩
  rw [n4]
  refine o_sum_cong _ (fun c hc => ?_)
  unfold o_st mSt
  rcases (hC c (by omega)).2.2 with ⟨s1, s2⟩ | ⟨p, s1, s2, s3, s4⟩
  · rw [if_pos s1, s2]; rfl
  · have p0 := (xP p s1).1
    rw [if_neg (by omega), s2, s3, Int.toNat_natCast, (hP p s1).1]
    refine o_sum_cong _ (fun j hj => ?_)
    obtain ⟨t1, t2, t3⟩ := s4 j (by omega)
    have e := (hP p s1).2 j (by omega)
    unfold mSt1 mW
    rw [s2, Int.toNat_natCast, t1, t2, t3, e]
    by_cases c1 : σ1 9 p j = a
    · by_cases c2 : σ1 6 c j = -1
      · rw [if_pos ⟨c1, c2⟩, if_pos ⟨c2, c1⟩]
      · rw [if_neg (fun q => c2 q.2), if_neg (fun q => c2 q.1)]
    · rw [if_neg (fun q => c1 q.1), if_neg (fun q => c1 q.2)]
