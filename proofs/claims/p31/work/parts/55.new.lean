/-- a row of references made and stored in the object at the world's head -/
theorem n_mq {l : Launch} {g : oG} {own : String} {cc : ByteArray} {lam mc ms : Nat} {x : oCtx} {q pc pw z N idx idx2 slot ci j : Nat} {vr : List (Option Value)} {fs : List Value} {L : va_W} {k n : Nat} {Cn Cm : String} {T : u_T} {F : Nat} {ty0 : Nat → FieldType} (C : nK g own cc lam mc ms x) (hI : nIn x) (hz : z = N) (hl : fs.length = F) (hp : ∀ (ws : va_W) (k n : Nat), nW l g x ws (pc + 1 + pw) (some (.ref q) :: vr) [oi z, .ref q] k n → nW l g x ws (pc + 1) (some (.ref q) :: vr) [.ref q] k n) (hN : N ≤ 100000) (hCm : Cm ∈ [RX0, RX2, RX3]) (hj : (o_tys g)[j]? = some (g.2.2 j, .object Cm)) (hcl : Cond.classLink own idx2 Cm ∈ wsL_law) (hk : k + 1 ≤ mc) (hn : n + N ≤ ms) (hc : vwCl[ci]? = some (Cn, T, F)) (hin : ∀ w ∈ u_ws Cn T F, w ∈ wsL_law) (hty : ∀ k, k < F → parseFieldDescriptor (T k).2.2.1 = some (ty0 k)) (hnm : ∀ a, a < F → ∀ b, b < F → a ≠ b → (T a).2.1 ≠ (T b).2.1) (hs : slot < F) (hlink : Cond.fieldLink own idx (T slot).1 (T slot).2.1 (T slot).2.2.1 ∈ wsL_law) (hdecl : (T slot).1 = own) (hpd : parseFieldDescriptor (T slot).2.2.1 = some (.array (.object Cm))) (d0 : decode cc pc = .ok (.aload_n 0, 1)) (d2 : decode cc (pc + 1 + pw) = .ok (.anewarray idx2, 3)) (d3 : decode cc (pc + 1 + pw + 3) = .ok (.putfield idx, 3)) (kk : ∀ b : Nat, nW l g x ((q, .inr (ci, fs.set slot (.ref b))) :: (L ++ [(b, .inl (g.2.2 j, N, .inr (.inr (.inr (.inr (fun _ => none))))))])) (pc + 1 + pw + 3 + 3) (some (.ref q) :: vr) [] (k + 1) (n + N)) : nW l g x ((q, .inr (ci, fs)) :: L) pc (some (.ref q) :: vr) [] k n := by
  refine n_aload_n C d0 rfl ?_
  refine hp _ _ _ ?_
  refine n_anew C (N := N) (by rw [hz]) hN hCm hj hcl hk hn d2 (fun b => ?_)
  exact n_put (q0 := 0) (a := q) (ci := ci) (fs := fs) C hI rfl hc hin ty0 hty hnm hs hlink hdecl hpd rfl rfl (by rw [hl]; exact hs) d3 rfl (kk b)
/-- an object made, its constructor called, and stored in the object at the world's head -/
theorem n_mo {l : Launch} {g : oG} {own : String} {cc : ByteArray} {lam mc ms : Nat} {x : oCtx} {q pc idx idx2 idx3 slot ci ci' : Nat} {vr : List (Option Value)} {fs fs' : List Value} {L : va_W} {k n : Nat} {Cn Cm : String} {T T' : u_T} {F F' : Nat} {ty0 ty' : Nat → FieldType} {y : MethodName} {bytes : ByteArray} {maxL mc' ms' : Nat} {post : Nat → va_W → Prop} {host : String} (C : nK g own cc lam mc ms x) (hI : nIn x) (hl : fs.length = F) (hM : ∀ b, nMv l g y (.code y bytes maxL none) 1 mc' ms' b (.inr (ci', fs')) (post b))
    (hin' : ∀ w ∈ u_ws Cm T' F', w ∈ wsL_law) (hty' : ∀ k, k < F' → parseFieldDescriptor (T' k).2.2.1 = some (ty' k)) (c1 : Cond.classLink own idx2 Cm ∈ wsL_law) (c2 : Cond.instantiable Cm F' ∈ wsL_law) (c3 : Cond.initialized Cm ∈ wsL_law) (hc' : vwCl[ci']? = some (Cm, T', F')) (hfs : ∀ j, j < F' → defaultValue (ty' j) = vp_V fs' j)
    (w1 : (own, idx3, y, host) ∈ o_nm) (w2 : Cond.instanceMethod y ∈ wsL_law) (w4 : Cond.initialized y.cls ∈ wsL_law) (w5 : Cond.code y bytes maxL none ∈ wsL_law) (hy1 : y.name = "<init>") (hy : oDn y 0) (hL : maxL ≤ 81) (hlm : 2 ≤ lam) (hk : k + 1 + mc' ≤ mc) (hn : n + F' + ms' ≤ ms)
    (hc : vwCl[ci]? = some (Cn, T, F)) (hin : ∀ w ∈ u_ws Cn T F, w ∈ wsL_law) (hty : ∀ k, k < F → parseFieldDescriptor (T k).2.2.1 = some (ty0 k)) (hnm : ∀ a, a < F → ∀ b, b < F → a ≠ b → (T a).2.1 ≠ (T b).2.1) (hs : slot < F) (hlink : Cond.fieldLink own idx (T slot).1 (T slot).2.1 (T slot).2.2.1 ∈ wsL_law) (hdecl : (T slot).1 = own) (hpd : parseFieldDescriptor (T slot).2.2.1 = some (.object Cm)) (d0 : decode cc pc = .ok (.aload_n 0, 1)) (d1 : decode cc (pc + 1) = .ok (.new idx2, 3)) (d2 : decode cc (pc + 4) = .ok (.dup, 1)) (d3 : decode cc (pc + 5) = .ok (.invokespecial idx3, 3)) (d4 : decode cc (pc + 8) = .ok (.putfield idx, 3)) (kk : ∀ (b : Nat) (w : va_W), post b w → nW l g x ((q, .inr (ci, fs.set slot (.ref b))) :: (L ++ w)) (pc + 11) (some (.ref q) :: vr) [] (k + 1 + mc') (n + F' + ms')) : nW l g x ((q, .inr (ci, fs)) :: L) pc (some (.ref q) :: vr) [] k n := by
  refine n_aload_n C d0 rfl ?_
  refine n_new (pc := pc + 1) (fs := fs') C hin' ty' hty' c1 c2 c3 hc' hfs (by omega) (by omega) d1 (fun b => ?_)
  refine n_dup (pc := pc + 4) C d2 rfl ?_
  refine n_initN (pc := pc + 5) C (hM b) w1 w2 w4 w5 hy1 hy hL (by omega) (by omega) (by omega) (Nat.le_of_ble_eq_true rfl) d3 (fun w hw => ?_)
  exact n_put (pc := pc + 8) (q0 := 0) (a := q) (ci := ci) (fs := fs) C hI rfl hc hin ty0 hty hnm hs hlink hdecl hpd rfl rfl (by rw [hl]; exact hs) d4 rfl (kk b w hw)
/-- the rows of references while the office is filled -/
def aG (F : Nat → Nat → Nat) (K i : Nat) : Nat → Option Nat := fun j => if j < i then some (F j K) else none
def aL (cX : (Nat → Nat) → va_W) (F : Nat → Nat → Nat) (i : Nat) : va_W := (List.range i).flatMap (fun j => cX (F j))
theorem aG_0 {F : Nat → Nat → Nat} {K : Nat} : aG F K 0 = fun _ => none := by
  funext j
  exact if_neg (Nat.not_lt_zero j)
theorem aG_up {F : Nat → Nat → Nat} {K i : Nat} {a : Nat → Nat} : va_up (aG F K i) i (some (a K)) = aG (fun j => if j = i then a else F j) K (i + 1) := by
  funext j
  show (if j = i then some (a K) else if j < i then some (F j K) else none) = if j < i + 1 then some ((if j = i then a else F j) K) else none
  rcases Nat.lt_trichotomy j i with h | h | h
  · rw [if_neg (by omega), if_pos h, if_pos (by omega), if_neg (by omega)]
  · rw [if_pos h, if_pos (by omega), if_pos h]
  · rw [if_neg (by omega), if_neg (by omega), if_neg (by omega)]
theorem fm_congr {f h : Nat → va_W} : ∀ l : List Nat, (∀ j ∈ l, f j = h j) → l.flatMap f = l.flatMap h
  | [], _ => rfl
  | a :: r, k => by
    rw [List.flatMap_cons, List.flatMap_cons, k a List.mem_cons_self, fm_congr r (fun j hj => k j (List.mem_cons_of_mem _ hj))]
theorem aL_up {cX : (Nat → Nat) → va_W} {F : Nat → Nat → Nat} {i : Nat} {a : Nat → Nat} : aL cX F i ++ cX a = aL cX (fun j => if j = i then a else F j) (i + 1) := by
  unfold aL
  rw [List.range_succ, List.flatMap_append, List.flatMap_singleton]
  refine congr (congrArg _ ?_) (by show cX a = cX (if i = i then a else F i); rw [if_pos rfl])
  refine fm_congr _ (fun j hj => ?_)
  have hj := List.mem_range.mp hj
  show cX (F j) = cX (if j = i then a else F j)
  rw [if_neg (by omega)]
theorem lp_0 {l : Launch} {g : oG} {lam mc ms : Nat} {x : oCtx} {q qc : Nat} {fs : List Value} {B1 B2 : Nat × va_E} {L : va_W} {k0 n0 : Nat} (C : nK g RX5 cX5_init lam mc ms x) (hlm : 2 ≤ lam) (h0 : fs[0]? = some (.ref qc)) (hk : k0 + 120 ≤ mc) (hn : n0 + 1500 ≤ ms) (E : ∀ F : Nat → Nat → Nat, nW l g x ((q, .inr (5, fs)) :: (qc, .inl (g.2.2 1, 20, .inr (.inr (.inr (.inr (aG F 1 20)))))) :: B1 :: B2 :: (L ++ aL (cC g) F 20)) 158 [some (.ref q), some (oi 20)] [] (k0 + 6 * 20) (n0 + 75 * 20)) : ∀ (d i : Nat), d + i = 20 → ∀ F : Nat → Nat → Nat, nW l g x ((q, .inr (5, fs)) :: (qc, .inl (g.2.2 1, 20, .inr (.inr (.inr (.inr (aG F 1 i)))))) :: B1 :: B2 :: (L ++ aL (cC g) F i)) 130 [some (.ref q), some (oi (i : Int))] [] (k0 + 6 * i) (n0 + 75 * i) := by
  intro d
  induction d with
  | zero =>
    intro i hi F
    obtain rfl : i = 20 := by omega
    refine n_iload_n (pc := 130) C dX5_init_130 rfl ?_
    refine n_aload_n (pc := 131) C dX5_init_131 rfl ?_
    refine n_get (pc := 132) (q0 := 0) (slot := 0) C rfl rfl inlX5 (by decide) kw_1_10 h0 dX5_init_132 ?_
    refine n_alen (pc := 135) (q0 := 1) (j := 1) (N := 20) C rfl rfl rfl dX5_init_135 ?_
    refine n_icmp_ge (pc := 136) (tgt := 158) C dX5_init_136 rfl ⟨by omega, by omega⟩ ⟨by omega, by omega⟩ (fun _ => E F) (fun h => absurd h (by omega))
  | succ d ih =>
    intro i hi F
    refine n_iload_n (pc := 130) C dX5_init_130 rfl ?_
    refine n_aload_n (pc := 131) C dX5_init_131 rfl ?_
    refine n_get (pc := 132) (q0 := 0) (slot := 0) C rfl rfl inlX5 (by decide) kw_1_10 h0 dX5_init_132 ?_
    refine n_alen (pc := 135) (q0 := 1) (j := 1) (N := 20) C rfl rfl rfl dX5_init_135 ?_
    refine n_icmp_ge (pc := 136) (tgt := 158) C dX5_init_136 rfl ⟨by omega, by omega⟩ ⟨by omega, by omega⟩ (fun h => absurd h (by omega)) (fun _ => ?_)
    refine n_aload_n (pc := 139) C dX5_init_139 rfl ?_
    refine n_get (pc := 140) (q0 := 0) (slot := 0) C rfl rfl inlX5 (by decide) kw_1_10 h0 dX5_init_140 ?_
    refine n_iload_n (pc := 143) C dX5_init_143 rfl ?_
    refine n_new (pc := 144) (ci := 0) (fs := [oi 0, oi 0, oi 0, oi 0, .null, .null, oi 0, .null, .null, .null, oi 0, oi 0, oi 0, oi 0]) C inlX0 tyX0 tyX0_ok kw_1_9 kw_2_14 kw_2_15 rfl (by decide +kernel) (by omega) (by omega) dX5_init_144 (fun b => ?_)
    refine n_dup (pc := 147) C dX5_init_147 rfl ?_
    refine n_initN (pc := 148) C (c_X0_init (q := b)) (List.mem_of_getElem? (i := 28) rfl) kw_3_12 kw_2_15 kw_3_13 rfl (by decide +kernel) (by decide) (by omega) (by omega) (by omega) (Nat.le_of_ble_eq_true rfl) dX5_init_148 (fun w hw => ?_)
    obtain ⟨a, rfl, rfl⟩ := hw
    refine n_aast (pc := 151) (q0 := 1) (j := 1) (ci := 0) (ws' := ((q, .inr (5, fs)) :: (qc, .inl (g.2.2 1, 20, .inr (.inr (.inr (.inr (aG (fun j => if j = i then a else F j) 1 (i + 1))))))) :: B1 :: B2 :: (L ++ aL (cC g) (fun j => if j = i then a else F j) (i + 1)))) C rfl rfl (List.mem_append_right _ (List.Mem.head _)) rfl (by omega) (by omega) (by decide) dX5_init_151 ?_ ?_
    · rw [← aG_up, ← aL_up, ← List.append_assoc, ← Int.toNat_natCast i]
      rfl
    refine n_iinc (pc := 152) C dX5_init_152 rfl ?_
    refine n_goto (pc := 155) (tgt := 130) C dX5_init_155 rfl ?_
    have h := ih (i + 1) (by omega) (fun j => if j = i then a else F j)
    rw [show k0 + 6 * (i + 1) = k0 + 6 * i + 1 + 5 by omega, show n0 + 75 * (i + 1) = n0 + 75 * i + 14 + 61 by omega] at h
    exact h
theorem lp_1 {l : Launch} {g : oG} {lam mc ms : Nat} {x : oCtx} {q qo : Nat} {fs : List Value} {B0 B2 : Nat × va_E} {L : va_W} {k0 n0 : Nat} (C : nK g RX5 cX5_init lam mc ms x) (hlm : 2 ≤ lam) (h0 : fs[2]? = some (.ref qo)) (hk : k0 + 12 ≤ mc) (hn : n0 + 48 ≤ ms) (E : ∀ F : Nat → Nat → Nat, nW l g x ((q, .inr (5, fs)) :: B0 :: (qo, .inl (g.2.2 2, 12, .inr (.inr (.inr (.inr (aG F 7 12)))))) :: B2 :: (L ++ aL (cO g) F 12)) 188 [some (.ref q), some (oi 12)] [] (k0 + 1 * 12) (n0 + 4 * 12)) : ∀ (d i : Nat), d + i = 12 → ∀ F : Nat → Nat → Nat, nW l g x ((q, .inr (5, fs)) :: B0 :: (qo, .inl (g.2.2 2, 12, .inr (.inr (.inr (.inr (aG F 7 i)))))) :: B2 :: (L ++ aL (cO g) F i)) 160 [some (.ref q), some (oi (i : Int))] [] (k0 + 1 * i) (n0 + 4 * i) := by
  intro d
  induction d with
  | zero =>
    intro i hi F
    obtain rfl : i = 12 := by omega
    refine n_iload_n (pc := 160) C dX5_init_160 rfl ?_
    refine n_aload_n (pc := 161) C dX5_init_161 rfl ?_
    refine n_get (pc := 162) (q0 := 0) (slot := 2) C rfl rfl inlX5 (by decide) kw_1_13 h0 dX5_init_162 ?_
    refine n_alen (pc := 165) (q0 := 2) (j := 2) (N := 12) C rfl rfl rfl dX5_init_165 ?_
    refine n_icmp_ge (pc := 166) (tgt := 188) C dX5_init_166 rfl ⟨by omega, by omega⟩ ⟨by omega, by omega⟩ (fun _ => E F) (fun h => absurd h (by omega))
  | succ d ih =>
    intro i hi F
    refine n_iload_n (pc := 160) C dX5_init_160 rfl ?_
    refine n_aload_n (pc := 161) C dX5_init_161 rfl ?_
    refine n_get (pc := 162) (q0 := 0) (slot := 2) C rfl rfl inlX5 (by decide) kw_1_13 h0 dX5_init_162 ?_
    refine n_alen (pc := 165) (q0 := 2) (j := 2) (N := 12) C rfl rfl rfl dX5_init_165 ?_
    refine n_icmp_ge (pc := 166) (tgt := 188) C dX5_init_166 rfl ⟨by omega, by omega⟩ ⟨by omega, by omega⟩ (fun h => absurd h (by omega)) (fun _ => ?_)
    refine n_aload_n (pc := 169) C dX5_init_169 rfl ?_
    refine n_get (pc := 170) (q0 := 0) (slot := 2) C rfl rfl inlX5 (by decide) kw_1_13 h0 dX5_init_170 ?_
    refine n_iload_n (pc := 173) C dX5_init_173 rfl ?_
    refine n_new (pc := 174) (ci := 2) (fs := [oi 0, oi 0, oi 0, oi 0]) C inlX2 tyX2 tyX2_ok kw_1_12 kw_2_16 kw_2_17 rfl (by decide +kernel) (by omega) (by omega) dX5_init_174 (fun b => ?_)
    refine n_dup (pc := 177) C dX5_init_177 rfl ?_
    refine n_initN (pc := 178) C (c_X2_init (q := b)) (List.mem_of_getElem? (i := 29) rfl) kw_4_5 kw_2_17 kw_4_6 rfl (by decide +kernel) (by decide) (by omega) (by omega) (by omega) (Nat.le_of_ble_eq_true rfl) dX5_init_178 (fun w hw => ?_)
    obtain ⟨a, rfl, rfl⟩ := hw
    refine n_aast (pc := 181) (q0 := 2) (j := 2) (ci := 2) (ws' := ((q, .inr (5, fs)) :: B0 :: (qo, .inl (g.2.2 2, 12, .inr (.inr (.inr (.inr (aG (fun j => if j = i then a else F j) 7 (i + 1))))))) :: B2 :: (L ++ aL (cO g) (fun j => if j = i then a else F j) (i + 1)))) C rfl rfl (List.mem_append_right _ (List.Mem.head _)) rfl (by omega) (by omega) (by decide) dX5_init_181 ?_ ?_
    · rw [← aG_up, ← aL_up, ← List.append_assoc, ← Int.toNat_natCast i]
      rfl
    refine n_iinc (pc := 182) C dX5_init_182 rfl ?_
    refine n_goto (pc := 185) (tgt := 160) C dX5_init_185 rfl ?_
    have h := ih (i + 1) (by omega) (fun j => if j = i then a else F j)
    rw [show k0 + 1 * (i + 1) = k0 + 1 * i + 1 + 0 by omega, show n0 + 4 * (i + 1) = n0 + 4 * i + 4 + 0 by omega] at h
    exact h
theorem lp_2 {l : Launch} {g : oG} {lam mc ms : Nat} {x : oCtx} {q qp : Nat} {fs : List Value} {B0 B1 : Nat × va_E} {L : va_W} {k0 n0 : Nat} (C : nK g RX5 cX5_init lam mc ms x) (hlm : 2 ≤ lam) (h0 : fs[4]? = some (.ref qp)) (hk : k0 + 20 ≤ mc) (hn : n0 + 170 ≤ ms) (E : ∀ F : Nat → Nat → Nat, nW l g x ((q, .inr (5, fs)) :: B0 :: B1 :: (qp, .inl (g.2.2 3, 10, .inr (.inr (.inr (.inr (aG F 8 10)))))) :: (L ++ aL (cP g) F 10)) 218 [some (.ref q), some (oi 10)] [] (k0 + 2 * 10) (n0 + 17 * 10)) : ∀ (d i : Nat), d + i = 10 → ∀ F : Nat → Nat → Nat, nW l g x ((q, .inr (5, fs)) :: B0 :: B1 :: (qp, .inl (g.2.2 3, 10, .inr (.inr (.inr (.inr (aG F 8 i)))))) :: (L ++ aL (cP g) F i)) 190 [some (.ref q), some (oi (i : Int))] [] (k0 + 2 * i) (n0 + 17 * i) := by
  intro d
  induction d with
  | zero =>
    intro i hi F
    obtain rfl : i = 10 := by omega
    refine n_iload_n (pc := 190) C dX5_init_190 rfl ?_
    refine n_aload_n (pc := 191) C dX5_init_191 rfl ?_
    refine n_get (pc := 192) (q0 := 0) (slot := 4) C rfl rfl inlX5 (by decide) kw_1_16 h0 dX5_init_192 ?_
    refine n_alen (pc := 195) (q0 := 3) (j := 3) (N := 10) C rfl rfl rfl dX5_init_195 ?_
    refine n_icmp_ge (pc := 196) (tgt := 218) C dX5_init_196 rfl ⟨by omega, by omega⟩ ⟨by omega, by omega⟩ (fun _ => E F) (fun h => absurd h (by omega))
  | succ d ih =>
    intro i hi F
    refine n_iload_n (pc := 190) C dX5_init_190 rfl ?_
    refine n_aload_n (pc := 191) C dX5_init_191 rfl ?_
    refine n_get (pc := 192) (q0 := 0) (slot := 4) C rfl rfl inlX5 (by decide) kw_1_16 h0 dX5_init_192 ?_
    refine n_alen (pc := 195) (q0 := 3) (j := 3) (N := 10) C rfl rfl rfl dX5_init_195 ?_
    refine n_icmp_ge (pc := 196) (tgt := 218) C dX5_init_196 rfl ⟨by omega, by omega⟩ ⟨by omega, by omega⟩ (fun h => absurd h (by omega)) (fun _ => ?_)
    refine n_aload_n (pc := 199) C dX5_init_199 rfl ?_
    refine n_get (pc := 200) (q0 := 0) (slot := 4) C rfl rfl inlX5 (by decide) kw_1_16 h0 dX5_init_200 ?_
    refine n_iload_n (pc := 203) C dX5_init_203 rfl ?_
    refine n_new (pc := 204) (ci := 3) (fs := [.null, oi 0]) C inlX3 tyX3 tyX3_ok kw_1_15 kw_1_18 kw_1_19 rfl (by decide +kernel) (by omega) (by omega) dX5_init_204 (fun b => ?_)
    refine n_dup (pc := 207) C dX5_init_207 rfl ?_
    refine n_initN (pc := 208) C (c_X3_init (q := b)) (List.mem_of_getElem? (i := 25) rfl) kw_2_18 kw_1_19 kw_2_19 rfl (by decide +kernel) (by decide) (by omega) (by omega) (by omega) (Nat.le_of_ble_eq_true rfl) dX5_init_208 (fun w hw => ?_)
    obtain ⟨a, rfl, rfl⟩ := hw
    refine n_aast (pc := 211) (q0 := 3) (j := 3) (ci := 3) (ws' := ((q, .inr (5, fs)) :: B0 :: B1 :: (qp, .inl (g.2.2 3, 10, .inr (.inr (.inr (.inr (aG (fun j => if j = i then a else F j) 8 (i + 1))))))) :: (L ++ aL (cP g) (fun j => if j = i then a else F j) (i + 1)))) C rfl rfl (List.mem_append_right _ (List.Mem.head _)) rfl (by omega) (by omega) (by decide) dX5_init_211 ?_ ?_
    · rw [← aG_up, ← aL_up, ← List.append_assoc, ← Int.toNat_natCast i]
      rfl
    refine n_iinc (pc := 212) C dX5_init_212 rfl ?_
    refine n_goto (pc := 215) (tgt := 190) C dX5_init_215 rfl ?_
    have h := ih (i + 1) (by omega) (fun j => if j = i then a else F j)
    rw [show k0 + 2 * (i + 1) = k0 + 2 * i + 1 + 1 by omega, show n0 + 17 * (i + 1) = n0 + 17 * i + 2 + 15 by omega] at h
    exact h
theorem lq_0 {l : Launch} {g : oG} {lam mc ms : Nat} {x : oCtx} {q qc : Nat} {fs : List Value} {B1 B2 : Nat × va_E} {L : va_W} {k0 n0 : Nat} (C : nK g RX5 cX5_init lam mc ms x) (hlm : 2 ≤ lam) (h0 : fs[0]? = some (.ref qc)) (hk : k0 + 120 ≤ mc) (hn : n0 + 1500 ≤ ms) (E : ∀ F : Nat → Nat → Nat, nW l g x ((q, .inr (5, fs)) :: (qc, .inl (g.2.2 1, 20, .inr (.inr (.inr (.inr (aG F 1 20)))))) :: B1 :: B2 :: (L ++ aL (cC g) F 20)) 158 [some (.ref q), some (oi 20)] [] (k0 + 6 * 20) (n0 + 75 * 20)) : nW l g x ((q, .inr (5, fs)) :: (qc, .inl (g.2.2 1, 20, .inr (.inr (.inr (.inr (fun _ => none)))))) :: B1 :: B2 :: L) 130 [some (.ref q), some (oi 0)] [] k0 n0 := by
  have h := lp_0 C hlm h0 hk hn E 20 0 rfl (fun _ _ => 0)
  rw [aG_0, show aL (cC g) (fun _ _ => 0) 0 = [] from rfl, List.append_nil] at h
  exact h
theorem lq_1 {l : Launch} {g : oG} {lam mc ms : Nat} {x : oCtx} {q qo : Nat} {fs : List Value} {B0 B2 : Nat × va_E} {L : va_W} {k0 n0 : Nat} (C : nK g RX5 cX5_init lam mc ms x) (hlm : 2 ≤ lam) (h0 : fs[2]? = some (.ref qo)) (hk : k0 + 12 ≤ mc) (hn : n0 + 48 ≤ ms) (E : ∀ F : Nat → Nat → Nat, nW l g x ((q, .inr (5, fs)) :: B0 :: (qo, .inl (g.2.2 2, 12, .inr (.inr (.inr (.inr (aG F 7 12)))))) :: B2 :: (L ++ aL (cO g) F 12)) 188 [some (.ref q), some (oi 12)] [] (k0 + 1 * 12) (n0 + 4 * 12)) : nW l g x ((q, .inr (5, fs)) :: B0 :: (qo, .inl (g.2.2 2, 12, .inr (.inr (.inr (.inr (fun _ => none)))))) :: B2 :: L) 160 [some (.ref q), some (oi 0)] [] k0 n0 := by
  have h := lp_1 C hlm h0 hk hn E 12 0 rfl (fun _ _ => 0)
  rw [aG_0, show aL (cO g) (fun _ _ => 0) 0 = [] from rfl, List.append_nil] at h
  exact h
theorem lq_2 {l : Launch} {g : oG} {lam mc ms : Nat} {x : oCtx} {q qp : Nat} {fs : List Value} {B0 B1 : Nat × va_E} {L : va_W} {k0 n0 : Nat} (C : nK g RX5 cX5_init lam mc ms x) (hlm : 2 ≤ lam) (h0 : fs[4]? = some (.ref qp)) (hk : k0 + 20 ≤ mc) (hn : n0 + 170 ≤ ms) (E : ∀ F : Nat → Nat → Nat, nW l g x ((q, .inr (5, fs)) :: B0 :: B1 :: (qp, .inl (g.2.2 3, 10, .inr (.inr (.inr (.inr (aG F 8 10)))))) :: (L ++ aL (cP g) F 10)) 218 [some (.ref q), some (oi 10)] [] (k0 + 2 * 10) (n0 + 17 * 10)) : nW l g x ((q, .inr (5, fs)) :: B0 :: B1 :: (qp, .inl (g.2.2 3, 10, .inr (.inr (.inr (.inr (fun _ => none)))))) :: L) 190 [some (.ref q), some (oi 0)] [] k0 n0 := by
  have h := lp_2 C hlm h0 hk hn E 10 0 rfl (fun _ _ => 0)
  rw [aG_0, show aL (cP g) (fun _ _ => 0) 0 = [] from rfl, List.append_nil] at h
  exact h
def cH (g : oG) (q1 q2 : Nat) (aD aF aR r1 r2 : Nat → Nat) : va_W := cP g aD ++ ([(q1, .inl (g.2.2 0, 7, .inl (fun _ => 0))), (q2, .inl (g.2.2 0, 7, .inl (fun _ => 0)))] ++ (cF g aF ++ cR g aR r1 r2))
def cW (g : oG) (q qc qo qp q1 q2 : Nat) (aD aF aR r1 r2 : Nat → Nat) (F0 F1 F2 : Nat → Nat → Nat) : va_W :=
  (q, .inr (5, [.ref qc, oi 0, .ref qo, oi 0, .ref qp, oi 0, .ref (aD 8), oi 10, oi 20, oi 8, oi (-1), oi 0, .ref q1, .ref q2, oi 0, .ref (aF 10), .ref (aR 13)])) :: (qc, .inl (g.2.2 1, 20, .inr (.inr (.inr (.inr (aG F0 1 20)))))) :: (qo, .inl (g.2.2 2, 12, .inr (.inr (.inr (.inr (aG F1 7 12)))))) :: (qp, .inl (g.2.2 3, 10, .inr (.inr (.inr (.inr (aG F2 8 10)))))) :: (((cH g q1 q2 aD aF aR r1 r2 ++ aL (cC g) F0 20) ++ aL (cO g) F1 12) ++ aL (cP g) F2 10)
set_option maxRecDepth 100000 in
theorem c_X5_init {l : Launch} {g : oG} {q : Nat} : nMv l g yX5_init (.code yX5_init cX5_init 2 none) 2 182 4913 q (.inr (5, [.null, oi 0, .null, oi 0, .null, oi 0, .null, oi 0, oi 0, oi 0, oi 0, oi 0, .null, .null, oi 0, .null, .null])) (fun w => ∃ (qc qo qp q1 q2 : Nat) (aD aF aR r1 r2 : Nat → Nat) (F0 F1 F2 : Nat → Nat → Nat), w = cW g q qc qo qp q1 q2 aD aF aR r1 r2 F0 F1 F2) := by
  refine nMv_of (own := RX5) (by decide +kernel) rfl rfl (by decide) (fun x C hI E => ?_)
  show nW l g x [(q, .inr (5, [.null, oi 0, .null, oi 0, .null, oi 0, .null, oi 0, oi 0, oi 0, oi 0, oi 0, .null, .null, oi 0, .null, .null]))] 0 [some (.ref q), none] [] 0 0
  refine n_aload_n (pc := 0) C dX5_init_0 rfl ?_
  refine n_obj (pc := 1) C kw_1_6 (Nat.le_of_ble_eq_true rfl) dX5_init_1 ?_
  refine n_mq (pc := 4) (pw := 2) (z := 20) (N := 20) (slot := 0) (j := 1) (Cm := RX0) (ty0 := tyX5) C hI rfl (by first | (simp only [List.length_set]; rfl) | rfl) (fun _ _ _ h => n_bipush C dX5_init_5 rfl h) (by decide) (by decide) rfl kw_1_9 (Nat.le_of_ble_eq_true rfl) (Nat.le_of_ble_eq_true rfl) rfl inlX5 tyX5_ok nmX5 (by decide) kw_1_10 rfl (by decide +kernel) dX5_init_4 dX5_init_7 dX5_init_10 (fun qc => ?_)
  refine n_mi (pc := 13) (pw := 1) (z := 0) (slot := 1) (ty0 := tyX5) C hI (by first | (simp only [List.length_set]; rfl) | rfl) (fun _ _ _ h => n_iconst C dX5_init_14 h) rfl inlX5 tyX5_ok nmX5 (by decide) kw_1_11 rfl (by decide +kernel) dX5_init_13 dX5_init_15 ?_
  refine n_mq (pc := 18) (pw := 2) (z := 12) (N := 12) (slot := 2) (j := 2) (Cm := RX2) (ty0 := tyX5) C hI rfl (by first | (simp only [List.length_set]; rfl) | rfl) (fun _ _ _ h => n_bipush C dX5_init_19 rfl h) (by decide) (by decide) rfl kw_1_12 (Nat.le_of_ble_eq_true rfl) (Nat.le_of_ble_eq_true rfl) rfl inlX5 tyX5_ok nmX5 (by decide) kw_1_13 rfl (by decide +kernel) dX5_init_18 dX5_init_21 dX5_init_24 (fun qo => ?_)
  refine n_mi (pc := 27) (pw := 1) (z := 0) (slot := 3) (ty0 := tyX5) C hI (by first | (simp only [List.length_set]; rfl) | rfl) (fun _ _ _ h => n_iconst C dX5_init_28 h) rfl inlX5 tyX5_ok nmX5 (by decide) kw_1_14 rfl (by decide +kernel) dX5_init_27 dX5_init_29 ?_
  refine n_mq (pc := 32) (pw := 2) (z := 10) (N := 10) (slot := 4) (j := 3) (Cm := RX3) (ty0 := tyX5) C hI rfl (by first | (simp only [List.length_set]; rfl) | rfl) (fun _ _ _ h => n_bipush C dX5_init_33 rfl h) (by decide) (by decide) rfl kw_1_15 (Nat.le_of_ble_eq_true rfl) (Nat.le_of_ble_eq_true rfl) rfl inlX5 tyX5_ok nmX5 (by decide) kw_1_16 rfl (by decide +kernel) dX5_init_32 dX5_init_35 dX5_init_38 (fun qp => ?_)
  refine n_mi (pc := 41) (pw := 1) (z := 0) (slot := 5) (ty0 := tyX5) C hI (by first | (simp only [List.length_set]; rfl) | rfl) (fun _ _ _ h => n_iconst C dX5_init_42 h) rfl inlX5 tyX5_ok nmX5 (by decide) kw_1_17 rfl (by decide +kernel) dX5_init_41 dX5_init_43 ?_
  refine n_mo (pc := 46) (slot := 6) (ty0 := tyX5) (ty' := tyX3) (fs' := [.null, oi 0]) C hI (by first | (simp only [List.length_set]; rfl) | rfl) (fun b => c_X3_init (q := b)) inlX3 tyX3_ok kw_1_15 kw_1_18 kw_1_19 rfl (by decide +kernel) (List.mem_of_getElem? (i := 25) rfl) kw_2_18 kw_1_19 kw_2_19 rfl (by decide +kernel) (by decide) (Nat.le_refl 2) (Nat.le_of_ble_eq_true rfl) (Nat.le_of_ble_eq_true rfl) rfl inlX5 tyX5_ok nmX5 (by decide) kw_1_20 rfl (by decide +kernel) dX5_init_46 dX5_init_47 dX5_init_50 dX5_init_51 dX5_init_54 (fun bD wbD hbD => ?_)
  refine n_mi (pc := 57) (pw := 2) (z := 10) (slot := 7) (ty0 := tyX5) C hI (by first | (simp only [List.length_set]; rfl) | rfl) (fun _ _ _ h => n_bipush C dX5_init_58 rfl h) rfl inlX5 tyX5_ok nmX5 (by decide) kw_1_21 rfl (by decide +kernel) dX5_init_57 dX5_init_60 ?_
  refine n_mi (pc := 63) (pw := 2) (z := 20) (slot := 8) (ty0 := tyX5) C hI (by first | (simp only [List.length_set]; rfl) | rfl) (fun _ _ _ h => n_bipush C dX5_init_64 rfl h) rfl inlX5 tyX5_ok nmX5 (by decide) kw_1_22 rfl (by decide +kernel) dX5_init_63 dX5_init_66 ?_
  refine n_mi (pc := 69) (pw := 2) (z := 8) (slot := 9) (ty0 := tyX5) C hI (by first | (simp only [List.length_set]; rfl) | rfl) (fun _ _ _ h => n_bipush C dX5_init_70 rfl h) rfl inlX5 tyX5_ok nmX5 (by decide) kw_1_23 rfl (by decide +kernel) dX5_init_69 dX5_init_72 ?_
  refine n_mi (pc := 75) (pw := 1) (z := (-1)) (slot := 10) (ty0 := tyX5) C hI (by first | (simp only [List.length_set]; rfl) | rfl) (fun _ _ _ h => n_iconst C dX5_init_76 h) rfl inlX5 tyX5_ok nmX5 (by decide) kw_2_0 rfl (by decide +kernel) dX5_init_75 dX5_init_77 ?_
  refine n_mi (pc := 80) (pw := 1) (z := 0) (slot := 11) (ty0 := tyX5) C hI (by first | (simp only [List.length_set]; rfl) | rfl) (fun _ _ _ h => n_iconst C dX5_init_81 h) rfl inlX5 tyX5_ok nmX5 (by decide) kw_2_1 rfl (by decide +kernel) dX5_init_80 dX5_init_82 ?_
  refine n_mk (pc := 85) (pw := 2) (z := 7) (N := 7) (slot := 12) (ty0 := tyX5) C hI rfl (by first | (simp only [List.length_set]; rfl) | rfl) (fun _ _ _ h => n_bipush C dX5_init_86 rfl h) (by decide) (Nat.le_of_ble_eq_true rfl) (Nat.le_of_ble_eq_true rfl) rfl inlX5 tyX5_ok nmX5 (by decide) kw_2_3 rfl (by decide +kernel) dX5_init_85 dX5_init_88 dX5_init_90 (fun q1 => ?_)
  refine n_mk (pc := 93) (pw := 2) (z := 7) (N := 7) (slot := 13) (ty0 := tyX5) C hI rfl (by first | (simp only [List.length_set]; rfl) | rfl) (fun _ _ _ h => n_bipush C dX5_init_94 rfl h) (by decide) (Nat.le_of_ble_eq_true rfl) (Nat.le_of_ble_eq_true rfl) rfl inlX5 tyX5_ok nmX5 (by decide) kw_2_4 rfl (by decide +kernel) dX5_init_93 dX5_init_96 dX5_init_98 (fun q2 => ?_)
  refine n_mi (pc := 101) (pw := 1) (z := 0) (slot := 14) (ty0 := tyX5) C hI (by first | (simp only [List.length_set]; rfl) | rfl) (fun _ _ _ h => n_iconst C dX5_init_102 h) rfl inlX5 tyX5_ok nmX5 (by decide) kw_2_5 rfl (by decide +kernel) dX5_init_101 dX5_init_103 ?_
  refine n_mo (pc := 106) (slot := 15) (ty0 := tyX5) (ty' := tyX1) (fs' := [.null, oi 0, .null]) C hI (by first | (simp only [List.length_set]; rfl) | rfl) (fun b => c_X1_init (q := b)) inlX1 tyX1_ok kw_2_6 kw_2_7 kw_2_8 rfl (by decide +kernel) (List.mem_of_getElem? (i := 26) rfl) kw_2_23 kw_2_8 kw_3_0 rfl (by decide +kernel) (by decide) (Nat.le_refl 2) (Nat.le_of_ble_eq_true rfl) (Nat.le_of_ble_eq_true rfl) rfl inlX5 tyX5_ok nmX5 (by decide) kw_2_9 rfl (by decide +kernel) dX5_init_106 dX5_init_107 dX5_init_110 dX5_init_111 dX5_init_114 (fun bF wbF hbF => ?_)
  refine n_mo (pc := 117) (slot := 16) (ty0 := tyX5) (ty' := tyX4) (fs' := [.null, .null, .null]) C hI (by first | (simp only [List.length_set]; rfl) | rfl) (fun b => c_X4_init (q := b)) inlX4 tyX4_ok kw_2_10 kw_2_11 kw_2_12 rfl (by decide +kernel) (List.mem_of_getElem? (i := 27) rfl) kw_3_5 kw_2_12 kw_3_6 rfl (by decide +kernel) (by decide) (Nat.le_refl 2) (Nat.le_of_ble_eq_true rfl) (Nat.le_of_ble_eq_true rfl) rfl inlX5 tyX5_ok nmX5 (by decide) kw_2_13 rfl (by decide +kernel) dX5_init_117 dX5_init_118 dX5_init_121 dX5_init_122 dX5_init_125 (fun bR wbR hbR => ?_)
  obtain ⟨aD, rfl, rfl⟩ := hbD
  obtain ⟨aF, rfl, rfl⟩ := hbF
  obtain ⟨aR, r1, r2, rfl, rfl⟩ := hbR
  refine n_iconst (pc := 128) C dX5_init_128 ?_
  refine n_istore_n (pc := 129) C dX5_init_129 (by simp) ?_
  show nW l g x ((q, .inr (5, [.ref qc, oi 0, .ref qo, oi 0, .ref qp, oi 0, .ref (aD 8), oi 10, oi 20, oi 8, oi (-1), oi 0, .ref q1, .ref q2, oi 0, .ref (aF 10), .ref (aR 13)])) :: (qc, .inl (g.2.2 1, 20, .inr (.inr (.inr (.inr (fun _ => none)))))) :: (qo, .inl (g.2.2 2, 12, .inr (.inr (.inr (.inr (fun _ => none)))))) :: (qp, .inl (g.2.2 3, 10, .inr (.inr (.inr (.inr (fun _ => none)))))) :: (cH g q1 q2 aD aF aR r1 r2)) 130 [some (.ref q), some (oi 0)] [] 30 3195
  refine lq_0 C (Nat.le_refl 2) rfl (Nat.le_of_ble_eq_true rfl) (Nat.le_of_ble_eq_true rfl) (fun F0 => ?_)
  refine n_iconst (pc := 158) C dX5_init_158 ?_
  refine n_istore_n (pc := 159) C dX5_init_159 (by simp) ?_
  refine lq_1 C (Nat.le_refl 2) rfl (Nat.le_of_ble_eq_true rfl) (Nat.le_of_ble_eq_true rfl) (fun F1 => ?_)
  refine n_iconst (pc := 188) C dX5_init_188 ?_
  refine n_istore_n (pc := 189) C dX5_init_189 (by simp) ?_
  refine lq_2 C (Nat.le_refl 2) rfl (Nat.le_of_ble_eq_true rfl) (Nat.le_of_ble_eq_true rfl) (fun F2 => ?_)
  exact E _ _ _ _ _ dX5_init_218 ⟨qc, qo, qp, q1, q2, aD, aF, aR, r1, r2, F0, F1, F2, rfl⟩ (Nat.le_of_ble_eq_true rfl) (Nat.le_of_ble_eq_true rfl)
