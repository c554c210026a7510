/-! unit and compare -/
theorem Ov.tx {σ σ' : oS} {μ μ' : mS} {M M' o q p U' : Nat} {os' nl' : List Nat} {R' : Nat → Nat → Prop} (h : Ov σ μ M o σ' μ' M') (hS : Sim σ' μ' os' U' nl' M' R') (hq : q < 24) (hr : m_root μ q = nI p) (h1 : 1 ≤ p) (h2 : p < M) (hk : ¬ m_kind μ p = 1) : ∃ a, Tx σ' μ' R' q a p := by
  obtain ⟨v1, v2, v3, v4, v5, v6, v7⟩ := h
  refine hS.rd.tx hq (by rw [v4]; exact hr) h1 (by omega) (fun e => ?_)
  rcases v7 p h2 with e1 | ⟨-, e1⟩
  · exact hk (e1.symm.trans e)
  · exact absurd (e1.symm.trans e) (by decide)
theorem Ov.len {σ σ' : oS} {μ μ' : mS} {M M' o p : Nat} (h : Ov σ μ M o σ' μ' M') (hp : p < M) : mlen μ' p = mlen μ p := by
  unfold mlen
  rw [h.2.2.2.2.2.1 p hp]
theorem Sim.flat {F : Nat} {σ : oS} {μ : mS} {os nl : List Nat} {U M q a o : Nat} {R : Nat → Nat → Prop} (hS : Sim σ μ os U nl M R) (hT : Tx σ μ R q a o) (hk : m_kind μ o ≠ nI 3) : ∃ b, fX0_flatOf F σ (nI a) = some (nI b, σ) ∧ Fl (o_fw σ) μ U o b := by
  obtain ⟨hq, e1, e2, hR, ht⟩ := hT
  obtain ⟨q1, q2, q3, q4, q5, q6, q7, q8, q9⟩ := Sim_ob hS hR
  exact P_flatOf hS.rd hR ht (fun e => hk (by rw [q9.1, e]))
theorem C_unit {F : Nat} {σ : oS} {μ : mS} {M : Nat} (hF : 1048600 < F) (hM : M + 2 ≤ 4000) (p1 p2 : Int32) (h : Sm σ μ M) : ∃ r σ' C N b μ', fX0_unit F σ p1 p2 = some (r, σ', C, N) ∧ fX1_unit F μ p1 p2 = some (b, μ') ∧ m_thrown μ' = xC r ∧ (∀ a, r = .inr a → a = b) ∧ After σ M σ' μ' C N := by
  obtain ⟨os, U, nl, R, hS⟩ := h
  have fail : ∀ v1 v2 v3, JX1_unit_36 F μ v1 v2 v3 = some (0, m_s_thrown μ 1) := fun v1 v2 v3 => by
    unfold JX1_unit_36 JX1_unit_37
    rw [P_says0, bnd_s, cIf_t rfl]
  unfold fX0_unit fX1_unit
  rcases P_txt (F := F) hS p1 with ⟨h1, h2⟩ | ⟨q, a, o, rfl, hT, h1, h2⟩
  · rw [h1, h2, bndX_l, bnd_s, cIf_t rfl, fail]
    exact ⟨_, _, _, _, _, _, rfl, rfl, rfl, (fun a e => by cases e), After.keep (Sim_thrown hS 1) (by omega) (by omega)⟩
  · obtain ⟨hq, e1, e2, hR, ht⟩ := id hT
    obtain ⟨q1, q2, q3, q4, q5, q6, q7, q8, q9⟩ := Sim_ob hS hR
    obtain ⟨l1, l2, l3, l4⟩ := ObT_len ht
    have hin : vp_in (nI o) 4096 := vp_in_nI (by omega) (by omega)
    have hcl : (nI o).toNatClampNeg = o := nI_clamp (by omega)
    rw [h1, h2, bndX_r, bnd_s, cIf_f one_ne0, ck_t (in24 hq), cl24 hq, nmd_v, e2, ck_t hin, hcl, nmd_v, l1, P_lengthIn hS.rd hT, bnd_s]
    rcases pk_ix p2 (n := mlen μ o) (by omega) with hh | hh | ⟨j, hj, rfl⟩
    · rw [cIf_t hh, P_in_f (Or.inl hh) (by omega), bnp_s, cIf_t rfl, fail]
      exact ⟨_, _, _, _, _, _, rfl, rfl, rfl, (fun a e => by cases e), After.keep (Sim_thrown hS 1) (by omega) (by omega)⟩
    · have hc : cIf (p2 < 0) (some (.inl 1, σ, 1, 6) : xT Int32) (cIf (p2 < nI (mlen μ o)) (bndX (fX0_goOver F σ (nI q)) (fun a6 σ6 => ck (vp_in (nI q) 24) (nmd (o_fr σ6 q) (fun x8 => bnd (fX0_flatOf F σ6 x8) (fun r10 σ9 => bnd (fX0_unitAt F σ9 r10 p2) (fun r12 σ11 => some (.inr r12, σ11, 0, 0))))))) (some (.inl 1, σ, 1, 6))) = some (.inl 1, σ, 1, 6) := by
        by_cases h0 : p2 < 0
        · rw [cIf_t h0]
        · rw [cIf_f h0, cIf_f (Int32.not_lt.mpr hh)]
      rw [P_in_f (Or.inr hh) (by omega), bnp_s, cIf_t rfl, fail]
      exact ⟨_, _, _, _, _, _, hc, rfl, rfl, (fun a e => by cases e), After.keep (Sim_thrown hS 1) (by omega) (by omega)⟩
    · rw [cIf_f (nI_pos (by omega)), cIf_t (nI_lt hj (by omega)), P_in_t hj (by omega), bnp_s, cIf_f one_ne0]
      unfold JX1_unit_37
      rw [P_says1, bnd_s, cIf_f one_ne0, ck_t (in24 hq), cl24 hq, nmd_v, mgs_root_thrown, e2]
      have hS0 := Sim_thrown hS 0
      have hk1 := hT.k1 q9.1
      obtain ⟨a0, hT0⟩ := hS0.rd.tx (q := q) hq e2 q2 q3 hk1
      obtain ⟨σ', μ', os', U', nl', M', R', hS', hov, hg⟩ := P_goOver (F := F) hF (by omega) hS0 hT0
      rcases hg with ⟨C, N, g1, g2, g3, g4, g5⟩ | ⟨g1, g2, g3, -⟩
      · obtain ⟨a', hT'⟩ := hov.tx hS' hq e2 q2 q3 hk1
        obtain ⟨b, b1, b2⟩ := hS'.flat (F := F) hT' g5
        obtain ⟨x1, x2, x3, x4, x5, x6, x7⟩ := id b2
        have hl : mlen μ' o = mlen μ o := hov.len q3
        have r2 := hS'.rd.2.1
        have r3 := hS'.rd.2.2.1
        have hM' := hS'.2.1.2.1
        obtain ⟨v1, v2, v3, v4, v5, v6, v7⟩ := id hov
        rw [g2, bnd_s, cIf_f one_ne0, ck_t (in24 hq), nmd_v, v4, mgs_root_thrown, e2, P_unitOf' (by omega) hM' hS'.mt q2 (by omega) (by omega), bnd_s]
        refine ⟨.inr (nI (uo μ' o j)), σ', C + 0, N + 0, _, _, ?_, rfl, v5, (fun a e => by cases e; rfl), ⟨M', ⟨os', U', nl', R', hS'⟩, v1, by omega⟩, v3, by omega, by omega⟩
        rw [g1]
        refine bndX_k ?_
        rw [ck_t (in24 hq), nmd_v, hT'.2.1, b1, bnd_s, P_unitAt (by omega) r3 (by omega), bnd_s, x6 j (by omega)]
      · obtain ⟨v1, v2, v3, v4, v5, v6, v7⟩ := id hov
        rw [g1, g2, bndX_l, bnd_s, cIf_t rfl, nmd_v]
        exact ⟨_, _, _, _, _, _, rfl, rfl, rfl, (fun a e => by cases e), ⟨M', ⟨os', U', nl', R', Sim_thrown hS' 2⟩, v1, by omega⟩, v3, by omega, by omega⟩
theorem sgn_pos {d : Nat} (h1 : 0 < d) (h2 : d < 2 ^ 31) : sgn (nI d) = 1 := by
  unfold sgn
  have e1 : nI d >>> ((31 : Int32) &&& 31) = nI (d / 2 ^ 31) := pk_shrN h2 _ 31 (by decide)
  have e2 : (-nI d).toBitVec.toNat = 2 ^ 32 - d := by
    rw [Int32.toBitVec_neg, BitVec.toNat_neg, pk_tn (by omega)]
    omega
  have e3 : ((-nI d).toUInt32 >>> ((31 : Int32).toUInt32 &&& Int32.toUInt32 31)).toInt32 = nI 1 := by
    apply Int32.toBitVec_inj.mp
    apply BitVec.eq_of_toNat_eq
    rw [pk_ushr _ 31 31 (by decide), e2, pk_tn (by omega)]
    omega
  rw [e1, e3, Nat.div_eq_of_lt h2]
  decide
theorem sgn_neg {d : Nat} (h1 : 0 < d) (h2 : d < 2 ^ 31) : sgn (-nI d) = -1 := by
  unfold sgn
  have e0 : - -nI d = nI d := Int32.neg_neg
  have e1 : (-nI d) >>> ((31 : Int32) &&& 31) = -1 := by
    apply Int32.toInt_inj.mp
    rw [pk_shr _ _ 31 (by decide)]
    have e2 : (-nI d).toBitVec.toNat = 2 ^ 32 - d := by
      rw [Int32.toBitVec_neg, BitVec.toNat_neg, pk_tn (by omega)]
      omega
    have e3 : (-nI d).toInt = -(d : Int) := by
      show (-nI d).toBitVec.toInt = _
      rw [BitVec.toInt_eq_toNat_cond, e2]
      split <;> omega
    rw [e3, Int.shiftRight_eq_div_pow]
    have e4 : (-1 : Int32).toInt = -1 := by decide
    rw [e4]
    omega
  rw [e0, e1, pk_ushrN (by omega) 31 31 (by decide), Nat.div_eq_of_lt h2]
  decide
theorem sgn_zero : sgn 0 = 0 := by decide
/-- the sign of a difference -/
def sg (x y : Nat) : Int32 := if x = y then 0 else if y < x then 1 else -1
theorem sgn_sub {x y : Nat} (hx : x < 2 ^ 30) (hy : y < 2 ^ 30) : sgn (nI x - nI y) = sg x y := by
  unfold sg
  by_cases e : x = y
  · rw [if_pos e, e, pk_sub (Nat.le_refl _), Nat.sub_self]
    exact sgn_zero
  · rw [if_neg e]
    by_cases h : y < x
    · rw [if_pos h, pk_sub (by omega), sgn_pos (by omega) (by omega)]
    · rw [if_neg h, show nI x - nI y = -nI (y - x) by rw [← pk_sub (by omega), Int32.neg_sub], sgn_neg (by omega) (by omega)]
/-- where two texts differ first -/
def cmpU (f g : Nat → Nat) : Nat → Nat → Option Int32
  | 0, _ => none
  | k + 1, i => if f i = g i then cmpU f g k (i + 1) else some (sg (f i) (g i))
theorem cmpU_congr {f g f' g' : Nat → Nat} (k : Nat) : ∀ i, (∀ j, i ≤ j → j < i + k → f j = f' j ∧ g j = g' j) → cmpU f g k i = cmpU f' g' k i := by
  induction k with
  | zero => intro i h; rfl
  | succ k ih =>
    intro i h
    obtain ⟨h1, h2⟩ := h i (Nat.le_refl _) (by omega)
    rw [cmpU, cmpU, h1, h2, ih (i + 1) (fun j j1 j2 => h j (by omega) (by omega))]
theorem cmpU_none {f g : Nat → Nat} (k : Nat) : ∀ i, (∀ j, i ≤ j → j < i + k → f j = g j) → cmpU f g k i = none := by
  induction k with
  | zero => intro i h; rfl
  | succ k ih =>
    intro i h
    rw [cmpU, if_pos (h i (Nat.le_refl _) (by omega)), ih (i + 1) (fun j j1 j2 => h j (by omega) (by omega))]
theorem cmpU_some {f g : Nat → Nat} (k : Nat) : ∀ i j, i ≤ j → j < i + k → f j ≠ g j → ∃ v, cmpU f g k i = some v ∧ v ≠ 0 := by
  induction k with
  | zero => intro i j h1 h2; omega
  | succ k ih =>
    intro i j h1 h2 h3
    rw [cmpU]
    by_cases e : f i = g i
    · rw [if_pos e]
      exact ih (i + 1) j (by rcases Nat.lt_or_ge i j with h | h; exact h; exact absurd (show j = i by omega) (fun q => h3 (q ▸ e))) (by omega) h3
    · refine ⟨_, if_neg e, ?_⟩
      unfold sg
      rw [if_neg e]
      by_cases h : g i < f i
      · rw [if_pos h]; decide
      · rw [if_neg h]; decide
theorem P_ordL {F : Nat} {K : Int32 → mS → Option (Int32 × mS)} {μ : mS} {M o1 o2 n : Nat} (hF : 4100 < F) (hM : M ≤ 4000) (hT : MT μ M) (h1 : 1 ≤ o1) (h2 : o1 < M) (h3 : 1 ≤ o2) (h4 : o2 < M) (hn1 : n ≤ mlen μ o1) (hn2 : n ≤ mlen μ o2) (k : Nat) : ∀ m i, i + k = n → k < m →
    LX1_order_34 F K (nI o1) (nI o2) (nI n) m (nI i) μ = match cmpU (uo μ o1) (uo μ o2) k i with | none => K (nI n) μ | some v => some (v, μ) := by
  have hn3 := (hT o1 h1 h2).2.1
  induction k with
  | zero =>
    intro m i hi hm
    obtain ⟨m, rfl⟩ : ∃ q, m = q + 1 := ⟨m - 1, by omega⟩
    have e : i = n := by omega
    rw [LX1_order_34, cIf_t (nI_le (by omega) (by omega)), e]
    rfl
  | succ k ih =>
    intro m i hi hm
    obtain ⟨m, rfl⟩ : ∃ q, m = q + 1 := ⟨m - 1, by omega⟩
    have u1 := uo_lt μ o1 i
    have u2 := uo_lt μ o2 i
    rw [LX1_order_34, cIf_f (nI_ge (by omega) (by omega)), P_unitOf' hF hM hT h1 h2 (by omega), bnd_s, P_unitOf' hF hM hT h3 h4 (by omega), bnd_s, cmpU]
    by_cases e : uo μ o1 i = uo μ o2 i
    · rw [if_pos e, cIf_t (by rw [e]), nmd_v, nI_1, ih m (i + 1) (by omega) (by omega)]
    · rw [if_neg e, cIf_f (fun q => e (nI_inj (by omega) (by omega) q))]
      unfold sg
      rw [if_neg e]
      by_cases h : uo μ o2 i < uo μ o1 i
      · rw [if_pos h, cIf_t (nI_le (by omega) (by omega))]
      · rw [if_neg h, cIf_f (nI_ge (by omega) (by omega))]
/-- what order answers -/
def ordV (μ : mS) (o1 o2 : Nat) : Int32 := match cmpU (uo μ o1) (uo μ o2) (min (mlen μ o1) (mlen μ o2)) 0 with | none => sg (mlen μ o1) (mlen μ o2) | some v => v
theorem P_order {F : Nat} {μ : mS} {M o1 o2 : Nat} (hF : 4100 < F) (hM : M ≤ 4000) (hT : MT μ M) (h1 : 1 ≤ o1) (h2 : o1 < M) (h3 : 1 ≤ o2) (h4 : o2 < M) : fX1_order F μ (nI o1) (nI o2) = some (ordV μ o1 o2, μ) := by
  obtain ⟨l1, l2, -⟩ := hT o1 h1 h2
  obtain ⟨m1, m2, -⟩ := hT o2 h3 h4
  have hin1 : vp_in (nI o1) 4096 := vp_in_nI (by omega) (by omega)
  have hcl1 : (nI o1).toNatClampNeg = o1 := nI_clamp (by omega)
  have hin2 : vp_in (nI o2) 4096 := vp_in_nI (by omega) (by omega)
  have hcl2 : (nI o2).toNatClampNeg = o2 := nI_clamp (by omega)
  have key : JX1_order_30 F μ (nI o1) (nI o2) (nI (min (mlen μ o1) (mlen μ o2))) = some (ordV μ o1 o2, μ) := by
    unfold JX1_order_30
    refine Eq.trans (P_ordL hF hM hT h1 h2 h3 h4 (Nat.min_le_left _ _) (Nat.min_le_right _ _) (min (mlen μ o1) (mlen μ o2)) F 0 (by omega) (by omega)) ?_
    unfold ordV
    cases cmpU (uo μ o1) (uo μ o2) (min (mlen μ o1) (mlen μ o2)) 0 with
    | some v => rfl
    | none =>
      show ck (vp_in (nI o1) 4096) _ = some (sg (mlen μ o1) (mlen μ o2), μ)
      rw [ck_t hin1, hcl1, nmd_v, ck_t hin2, hcl2, nmd_v, ck_t hin1, nmd_v, ck_t hin2, nmd_v, l1, m1]
      unfold sg
      by_cases e : mlen μ o1 = mlen μ o2
      · rw [if_pos e, cIf_t (by rw [e])]
      · rw [if_neg e, cIf_f (fun q => e (nI_inj (by omega) (by omega) q))]
        by_cases h : mlen μ o2 < mlen μ o1
        · rw [if_pos h, cIf_t (nI_le (by omega) (by omega))]
        · rw [if_neg h, cIf_f (nI_ge (by omega) (by omega))]
  unfold fX1_order
  rw [ck_t hin1, hcl1, nmd_v, ck_t hin2, hcl2, nmd_v, ck_t hin2, nmd_v, ck_t hin1, nmd_v, l1, m1]
  by_cases h : mlen μ o2 ≤ mlen μ o1
  · rw [cIf_t (nI_le h (by omega))]
    rw [Nat.min_eq_right h] at key
    exact key
  · rw [cIf_f (nI_ge (by omega) (by omega))]
    rw [Nat.min_eq_left (by omega)] at key
    exact key
theorem P_cmpL {F : Nat} {K : Int32 → oS → Option ((Int32 ⊕ Int32) × oS × Nat × Nat)} {σ : oS} {v1 v2 : Int32} {a1 a2 n : Nat} (h1 : a1 + 4 + (n + 1) / 2 ≤ o_lw σ) (h2 : a2 + 4 + (n + 1) / 2 ≤ o_lw σ) (hb : o_lw σ ≤ 1048576) (k : Nat) : ∀ m i, i + k = n → k < m →
    LX0_compare_61 F K v1 v2 (nI a1) (nI a2) (nI n) m (nI i) σ = match cmpU (un (o_fw σ) a1) (un (o_fw σ) a2) k i with | none => K (nI n) σ | some v => some (.inr v, σ, 0, 0) := by
  induction k with
  | zero =>
    intro m i hi hm
    obtain ⟨m, rfl⟩ : ∃ q, m = q + 1 := ⟨m - 1, by omega⟩
    have e : i = n := by omega
    rw [LX0_compare_61, cIf_t (nI_le (by omega) (by omega)), e]
    rfl
  | succ k ih =>
    intro m i hi hm
    obtain ⟨m, rfl⟩ : ∃ q, m = q + 1 := ⟨m - 1, by omega⟩
    have u1 := un_lt (o_fw σ) a1 i
    have u2 := un_lt (o_fw σ) a2 i
    rw [LX0_compare_61, cIf_f (nI_ge (by omega) (by omega)), P_unitAt (by omega) hb (by omega), bnd_s, P_unitAt (by omega) hb (by omega), bnd_s, nmd_v, cmpU]
    by_cases e : un (o_fw σ) a1 i = un (o_fw σ) a2 i
    · rw [if_pos e, cIf_t (by rw [e, pk_sub (Nat.le_refl _), Nat.sub_self]; rfl), nmd_v, nI_1, ih m (i + 1) (by omega) (by omega)]
    · rw [if_neg e, cIf_f (fun q => by
        have h := pk_sub_toInt (a := un (o_fw σ) a1 i) (b := un (o_fw σ) a2 i) (by omega) (by omega)
        rw [q] at h
        have e0 : (0 : Int32).toInt = 0 := by decide
        omega), nmd_v, sgn_sub (by omega) (by omega)]
theorem C_compare {F : Nat} {σ : oS} {μ : mS} {M : Nat} (hF : 1048600 < F) (hM : M + 2 ≤ 4000) (p1 p2 : Int32) (h : Sm σ μ M) : ∃ r σ' C N b μ', fX0_compare F σ p1 p2 = some (r, σ', C, N) ∧ fX1_compare F μ p1 p2 = some (b, μ') ∧ m_thrown μ' = xC r ∧ (∀ a, r = .inr a → a = b) ∧ After σ M σ' μ' C N := by
  obtain ⟨os, U, nl, R, hS⟩ := h
  have fail : ∀ v1 v2, JX1_compare_21 F μ v1 v2 = some (0, m_s_thrown μ 1) := fun v1 v2 => by
    unfold JX1_compare_21 JX1_compare_22
    rw [P_says0, bnd_s, cIf_t rfl]
  unfold fX0_compare fX1_compare
  rcases P_txt (F := F) hS p1 with ⟨h1, h2⟩ | ⟨q1, a1, o1, rfl, hT1, h1, h2⟩
  · rw [h1, h2, bndX_l, bnd_s, cIf_t rfl, fail]
    exact ⟨_, _, _, _, _, _, rfl, rfl, rfl, (fun a e => by cases e), After.keep (Sim_thrown hS 1) (by omega) (by omega)⟩
  rw [h1, h2, bndX_r, bnd_s, cIf_f one_ne0]
  rcases P_txt (F := F) hS p2 with ⟨h1, h2⟩ | ⟨q2, a2, o2, rfl, hT2, h1, h2⟩
  · rw [h1, h2, bndX_l, bnd_s, cIf_t rfl, fail]
    exact ⟨_, _, _, _, _, _, rfl, rfl, rfl, (fun a e => by cases e), After.keep (Sim_thrown hS 1) (by omega) (by omega)⟩
  rw [h1, h2, bndX_r, bnd_s, cIf_f one_ne0]
  obtain ⟨w1, w2, w3, w4, w5⟩ := id hT1
  obtain ⟨v1, v2, v3, v4, v5⟩ := id hT2
  obtain ⟨b1, b2, b3, b4, b5, b6, b7, b8, b9⟩ := Sim_ob hS w4
  obtain ⟨c1, c2, c3, c4, c5, c6, c7, c8, c9⟩ := Sim_ob hS v4
  have hk1 := hT1.k1 b9.1
  have hk2 := hT2.k1 c9.1
  unfold JX1_compare_22
  rw [P_says1, bnd_s, cIf_f one_ne0, ck_t (in24 w1), cl24 w1, nmd_v, mgs_root_thrown, w3]
  have hS0 := Sim_thrown hS 0
  obtain ⟨a0, hT0⟩ := hS0.rd.tx (q := q1) w1 w3 b2 b3 hk1
  obtain ⟨σ', μ', os', U', nl', M', R', hS', hov, hg⟩ := P_goOver (F := F) hF (by omega) hS0 hT0
  obtain ⟨x1, x2, x3, x4, x5, x6, x7⟩ := id hov
  rcases hg with ⟨C, N, g1, g2, g3, g4, g5⟩ | ⟨g1, g2, g3, -⟩
  · have x4' : m_root μ' = m_root μ := x4
    rw [g2, bnd_s, cIf_f one_ne0, ck_t (in24 v1), cl24 v1, nmd_v, x4', v3]
    have hk2' : ¬ m_kind μ' o2 = 1 := fun e => by
      rcases x7 o2 c3 with e1 | ⟨-, e1⟩
      · exact hk2 (e1.symm.trans e)
      · exact absurd (e1.symm.trans e) (by decide)
    have hk1' : ¬ m_kind μ' o1 = 1 := fun e => by
      rcases x7 o1 b3 with e1 | ⟨-, e1⟩
      · exact hk1 (e1.symm.trans e)
      · exact absurd (e1.symm.trans e) (by decide)
    obtain ⟨a3, hT3⟩ := hov.tx hS' v1 v3 c2 c3 hk2
    obtain ⟨σ2, μ2, os2, U2, nl2, M2, R2, hS2, hov2, hg2⟩ := P_goOver (F := F) hF (by omega) hS' hT3
    obtain ⟨y1, y2, y3, y4, y5, y6, y7⟩ := id hov2
    rcases hg2 with ⟨C2, N2, k1, k2, k3, k4, k5⟩ | ⟨k1, k2, k3, -⟩
    · have y4' : m_root μ2 = m_root μ := y4.trans x4
      obtain ⟨a1', hT1'⟩ := hov2.tx hS2 (q := q1) w1 (by rw [x4']; exact w3) b2 (by omega) hk1'
      obtain ⟨a2', hT2'⟩ := hov2.tx hS2 (q := q2) v1 (by rw [x4']; exact v3) c2 (by omega) hk2'
      have k5' : m_kind μ2 o1 ≠ nI 3 := fun e => by
        rcases y7 o1 (by omega) with e1 | ⟨-, e1⟩
        · exact g5 (e1.symm.trans e)
        · exact absurd (e1.symm.trans e) (by decide)
      obtain ⟨f1, s1, s2⟩ := hS2.flat (F := F) hT1' k5'
      obtain ⟨f2, t1, t2⟩ := hS2.flat (F := F) hT2' k5
      obtain ⟨s3, s4, s5, s6, s7, s8, s9⟩ := id s2
      obtain ⟨t3, t4, t5, t6, t7, t8, t9⟩ := id t2
      obtain ⟨lm1, lm2, -⟩ := hS2.mt o1 b2 (by omega)
      obtain ⟨ln1, ln2, -⟩ := hS2.mt o2 c2 (by omega)
      have r2 := hS2.rd.2.1
      have r3 := hS2.rd.2.2.1
      rw [k2, bnd_s, cIf_f one_ne0, ck_t (in24 w1), nmd_v, ck_t (in24 v1), nmd_v, y4', w3, v3, P_order (by omega) hS2.2.1.2.1 hS2.mt b2 (by omega) c2 (by omega), bnd_s]
      refine ⟨.inr (ordV μ2 o1 o2), σ2, C + (C2 + 0), N + (N2 + 0), _, _, ?_, rfl, y5.trans x5, (fun a e => by cases e; rfl), ⟨M2, ⟨os2, U2, nl2, R2, hS2⟩, by omega, by omega⟩, y3.trans x3, by omega, by omega⟩
      rw [g1]
      refine bndX_k ?_
      rw [k1]
      refine bndX_k ?_
      rw [ck_t (in24 w1), nmd_v, hT1'.2.1, s1, bnd_s, ck_t (in24 v1), nmd_v, hT2'.2.1, t1, bnd_s, P_lengthIn hS2.rd hT1', bnd_s, P_lengthIn hS2.rd hT2', bnd_s, nmd_v]
      have hmin : cIf (nI (mlen μ2 o2) < nI (mlen μ2 o1)) (nI (mlen μ2 o2)) (nI (mlen μ2 o1)) = nI (min (mlen μ2 o1) (mlen μ2 o2)) := by
        by_cases hc : mlen μ2 o2 < mlen μ2 o1
        · rw [cIf_t (nI_lt hc (by omega)), Nat.min_eq_right (by omega)]
        · rw [cIf_f (nI_nlt (by omega) (by omega)), Nat.min_eq_left (by omega)]
      rw [hmin]
      refine Eq.trans (P_cmpL (by omega) (by omega) r3 (min (mlen μ2 o1) (mlen μ2 o2)) F 0 (by omega) (by omega)) ?_
      rw [cmpU_congr (f' := uo μ2 o1) (g' := uo μ2 o2) _ 0 (fun j _ hj => ⟨s8 j (by omega), t8 j (by omega)⟩)]
      unfold ordV
      cases cmpU (uo μ2 o1) (uo μ2 o2) (min (mlen μ2 o1) (mlen μ2 o2)) 0 with
      | some v => rfl
      | none =>
        show bnd (fX0_lengthIn F σ2 (nI q1)) _ = some (Sum.inr (sg (mlen μ2 o1) (mlen μ2 o2)), σ2, 0, 0)
        rw [P_lengthIn hS2.rd hT1', bnd_s, P_lengthIn hS2.rd hT2', bnd_s, nmd_v, sgn_sub (by omega) (by omega)]
    · rw [k2, bnd_s, cIf_t rfl, nmd_v]
      refine ⟨.inl 2, σ2, C + 1, N + 6, _, _, ?_, rfl, rfl, (fun a e => by cases e), ⟨M2, ⟨os2, U2, nl2, R2, Sim_thrown hS2 2⟩, by omega, by omega⟩, y3.trans x3, by omega, by omega⟩
      rw [g1]
      refine bndX_k ?_
      rw [k1, bndX_l]
  · rw [g1, g2, bndX_l, bnd_s, cIf_t rfl, nmd_v]
    exact ⟨_, _, _, _, _, _, rfl, rfl, rfl, (fun a e => by cases e), ⟨M', ⟨os', U', nl', R', Sim_thrown hS' 2⟩, x1, by omega⟩, x3, by omega, by omega⟩
