/-! the calls: how roots are asked for -/
def Sm (σ : oS) (μ : mS) (M : Nat) : Prop := ∃ os U nl R, Sim σ μ os U nl M R
/-- behind a call -/
def After (σ : oS) (M : Nat) (σ' : oS) (μ' : mS) (C N : Nat) : Prop := (∃ M', Sm σ' μ' M' ∧ M ≤ M' ∧ M' ≤ M + 2) ∧ o_lim σ' = o_lim σ ∧ C ≤ 6 ∧ N + pot σ ≤ pot σ' + 12
theorem After.keep {σ : oS} {M : Nat} {μ' : mS} {os nl : List Nat} {U : Nat} {R : Nat → Nat → Prop} (h : Sim σ μ' os U nl M R) {C N : Nat} (hC : C ≤ 6) (hN : N ≤ 12) : After σ M σ μ' C N := ⟨⟨M, ⟨os, U, nl, R, h⟩, Nat.le_refl _, by omega⟩, rfl, hC, by omega⟩
theorem After.put {σ σ' : oS} {M : Nat} {μ' : mS} {os nl : List Nat} {U : Nat} {R : Nat → Nat → Prop} (h : Sim σ' μ' os U nl M R) (hl : o_lim σ' = o_lim σ) (h2 : o_lw σ' = o_lw σ) (h3 : o_ln σ' = o_ln σ) {C N : Nat} (hC : C ≤ 6) (hN : N ≤ 12) : After σ M σ' μ' C N := ⟨⟨M, ⟨os, U, nl, R, h⟩, Nat.le_refl _, by omega⟩, hl, hC, by rw [pot_eq hl h2 h3]; omega⟩
theorem P_in_t {F j l : Nat} (h : j < l) (hl : l < 2 ^ 31) : fX1_in F (nI j) 0 (nI l - 1) = some 1 := by
  obtain ⟨l, rfl⟩ : ∃ m, l = m + 1 := ⟨l - 1, by omega⟩
  unfold fX1_in
  rw [nI_pred, cIf_f (nI_pos (by omega)), cIf_f (nI_nlt (by omega) (by omega))]
theorem P_in_f {F l : Nat} {p : Int32} (h : p < 0 ∨ nI l ≤ p) (hl : l < 2 ^ 31) : fX1_in F p 0 (nI l - 1) = some 0 := by
  unfold fX1_in
  by_cases h0 : p < 0
  · rw [cIf_t h0]
  · rw [cIf_f h0, cIf_t]
    have h1 : nI l ≤ p := h.resolve_left h0
    cases l with
    | zero =>
      have e : nI 0 - 1 = -1 := by decide
      rw [e, Int32.lt_iff_toInt_lt]
      rw [Int32.lt_iff_toInt_lt] at h0
      have e1 : (0 : Int32).toInt = 0 := by decide
      have e2 : (-1 : Int32).toInt = -1 := by decide
      omega
    | succ l =>
      rw [nI_pred, Int32.lt_iff_toInt_lt, nI_toInt (by omega)]
      rw [Int32.le_iff_toInt_le, nI_toInt hl] at h1
      omega
theorem nar_b1 : narrow .boolean (.int 1) = .int 1 := rfl
theorem nar_b0 : narrow .boolean (.int 0) = .int 0 := rfl
theorem P_isRoot_t {F q : Nat} (h : q < 24) : fX1_isRoot F (nI q) = some 1 := by
  unfold fX1_isRoot
  have : fX1_in F (nI q) 0 23 = some 1 := P_in_t (l := 24) h (by omega)
  rw [this, bnp_s, ck_t nar_b1]
theorem P_isRoot_f {F : Nat} {p : Int32} (h : p < 0 ∨ nI 24 ≤ p) : fX1_isRoot F p = some 0 := by
  unfold fX1_isRoot
  have : fX1_in F p 0 23 = some 0 := P_in_f (l := 24) h (by omega)
  rw [this, bnp_s, ck_t nar_b0]
theorem P_needRoot_t {F q : Nat} (h : q < 24) : fX0_needRoot F (nI q) = some (.inr ()) := by
  unfold fX0_needRoot
  rw [cIf_f (nI_pos (by omega)), cIf_t (show nI q < 24 from nI_lt (b := 24) h (by omega))]
theorem P_needRoot_f {F : Nat} {p : Int32} (h : p < 0 ∨ nI 24 ≤ p) : fX0_needRoot F p = some (.inl 1) := by
  unfold fX0_needRoot
  by_cases h0 : p < 0
  · rw [cIf_t h0]
  · rw [cIf_f h0, cIf_f]
    have h1 : nI 24 ≤ p := h.resolve_left h0
    exact Int32.not_lt.mpr h1
theorem root_cs (p : Int32) : (∃ q, q < 24 ∧ p = nI q) ∨ (p < 0 ∨ nI 24 ≤ p) := by
  rcases pk_ix p (n := 24) (by omega) with h | h | ⟨j, h1, h2⟩
  · exact Or.inr (Or.inl h)
  · exact Or.inr (Or.inr h)
  · exact Or.inl ⟨j, h1, h2⟩
theorem P_says1 {F : Nat} {μ : mS} : fX1_says F μ 1 = some (1, m_s_thrown μ 0) := by
  unfold fX1_says
  rw [cIf_f (by decide), nmd_v, ck_t nar_b1]
theorem P_says0 {F : Nat} {μ : mS} : fX1_says F μ 0 = some (0, m_s_thrown μ 1) := by
  unfold fX1_says
  rw [cIf_t rfl, nmd_v, ck_t nar_b0]
theorem in24 {q : Nat} (h : q < 24) : vp_in (nI q) 24 := vp_in_nI h (by omega)
theorem cl24 {q : Nat} (h : q < 24) : (nI q).toNatClampNeg = q := nI_clamp (by omega)
theorem bndN_r {β : Type} {σ : oS} {k : xT β} : bndN (some (.inr ())) σ k = k := rfl
theorem bndN_l {β : Type} {σ : oS} {k : xT β} {e : Int32} : bndN (some (.inl e)) σ k = some (.inl e, σ, 1, 6) := rfl
theorem bndX_l {α β : Type} {e : Int32} {σ : oS} {c n : Nat} {k : α → oS → xT β} : bndX (some (.inl e, σ, c, n)) k = some (.inl e, σ, c, n) := rfl
theorem addC_0 {ρ : Type} (y : Option (ρ × oS × Nat × Nat)) : addC 0 0 y = y := by
  cases y with
  | none => rfl
  | some q =>
    obtain ⟨r, s, c, n⟩ := q
    show some (r, s, 0 + c, 0 + n) = _
    rw [Nat.zero_add, Nat.zero_add]
theorem bndX_r {α β : Type} {a : α} {σ : oS} {k : α → oS → xT β} : bndX (some (.inr a, σ, 0, 0)) k = k a σ := addC_0 _
/-- a root's two sides -/
theorem Sim_at {σ : oS} {μ : mS} {os nl : List Nat} {U M q : Nat} {R : Nat → Nat → Prop} (hS : Sim σ μ os U nl M R) (hq : q < 24) : (o_fr σ q = -1 ∧ m_root μ q = nI 0) ∨ ∃ a o, o_fr σ q = nI a ∧ m_root μ q = nI o ∧ R a o := by
  rcases hS.2.2.2.2.2.1 q hq with ⟨e1, e2⟩ | ⟨a, o, e1, e2, h⟩
  · exact Or.inl ⟨e1, e2⟩
  · exact Or.inr ⟨a, o, e1, e2, h⟩
/-- what is known of an object by its number -/
theorem Sim_ob {σ : oS} {μ : mS} {os nl : List Nat} {U M a o : Nat} {R : Nat → Nat → Prop} (hS : Sim σ μ os U nl M R) (hR : R a o) : a ∈ os ∧ 1 ≤ o ∧ o < M ∧ M ≤ 4000 ∧ okO (o_fw σ) a ∧ a + sz (o_fw σ) a ≤ U ∧ U ≤ o_lw σ ∧ o_lw σ ≤ 1048576 ∧ ObR (o_fw σ) μ R a o := by
  obtain ⟨hO0, hMI, h1, h2, h3, h4, h5, h6, h7⟩ := hS
  obtain ⟨q1, q2, q3⟩ := h1 a o hR
  have := Ch_mem os hO0.1.1 q1
  exact ⟨q1, q2, q3, hMI.2.1, this.2.2, this.2.1, hO0.1.2.1, hO0.1.2.2.1, h5 a o hR⟩
theorem Sim_kd {F : Nat} {σ : oS} {μ : mS} {os nl : List Nat} {U M a o : Nat} {R : Nat → Nat → Prop} (hS : Sim σ μ os U nl M R) (hR : R a o) : fX0_kindAt F σ (nI a) = some (nI (kd (o_fw σ) a), σ) ∧ m_kind μ o = nI (kd (o_fw σ) a) := by
  obtain ⟨q1, q2, q3, q4, q5, q6, q7, q8, q9⟩ := Sim_ob hS hR
  have := okO_3 q5
  exact ⟨P_kindAt (by omega) q8 q5.1, q9.1⟩
theorem C_copy {F : Nat} {σ : oS} {μ : mS} {M : Nat} (p1 p2 : Int32) (h : Sm σ μ M) : ∃ r σ' C N μ', fX0_copy F σ p1 p2 = some (r, σ', C, N) ∧ fX1_copy F μ p1 p2 = some μ' ∧ m_thrown μ' = xC r ∧ (∀ k, r = .inl k → k = 1) ∧ After σ M σ' μ' C N := by
  obtain ⟨os, U, nl, R, hS⟩ := h
  unfold fX0_copy fX1_copy
  rcases root_cs p1 with ⟨q, hq, rfl⟩ | hn
  · rw [P_needRoot_t hq, P_isRoot_t hq, bndN_r, bnp_s, cIf_f (by decide)]
    rcases root_cs p2 with ⟨t, ht, rfl⟩ | hn
    · rw [P_needRoot_t ht, P_isRoot_t ht, bndN_r, bnp_s, cIf_f (by decide)]
      unfold JX1_copy_20
      rw [P_says1, bnd_s, cIf_f (by decide)]
      simp only [nmd_v, ck_t (in24 hq), ck_t (in24 ht), cl24 hq, cl24 ht]
      refine ⟨_, _, _, _, _, rfl, rfl, rfl, (fun k e => by cases e), ?_⟩
      exact After.put (Sim_root (q := q) (Sim_thrown hS 0) (hS.2.2.2.2.2.1 t ht)) rfl rfl rfl (by omega) (by omega)
    · rw [P_needRoot_f hn, P_isRoot_f hn, bndN_l, bnp_s, cIf_t rfl]
      unfold JX1_copy_19 JX1_copy_20
      rw [P_says0, bnd_s, cIf_t rfl]
      exact ⟨_, _, _, _, _, rfl, rfl, rfl, fun k e => by cases e; rfl, After.keep (Sim_thrown hS 1) (by omega) (by omega)⟩
  · rw [P_needRoot_f hn, P_isRoot_f hn, bndN_l, bnp_s, cIf_t rfl]
    unfold JX1_copy_19 JX1_copy_20
    rw [P_says0, bnd_s, cIf_t rfl]
    exact ⟨_, _, _, _, _, rfl, rfl, rfl, fun k e => by cases e; rfl, After.keep (Sim_thrown hS 1) (by omega) (by omega)⟩
theorem C_drop {F : Nat} {σ : oS} {μ : mS} {M : Nat} (p1 : Int32) (h : Sm σ μ M) : ∃ r σ' C N μ', fX0_drop F σ p1 = some (r, σ', C, N) ∧ fX1_drop F μ p1 = some μ' ∧ m_thrown μ' = xC r ∧ (∀ k, r = .inl k → k = 1) ∧ After σ M σ' μ' C N := by
  obtain ⟨os, U, nl, R, hS⟩ := h
  unfold fX0_drop fX1_drop
  rcases root_cs p1 with ⟨q, hq, rfl⟩ | hn
  · rw [P_needRoot_t hq, P_isRoot_t hq, bndN_r, bnp_s, P_says1, bnd_s, cIf_f (by decide)]
    simp only [nmd_v, ck_t (in24 hq), cl24 hq]
    refine ⟨_, _, _, _, _, rfl, rfl, rfl, (fun k e => by cases e), ?_⟩
    exact After.put (Sim_root (q := q) (Sim_thrown hS 0) (Or.inl ⟨rfl, rfl⟩)) rfl rfl rfl (by omega) (by omega)
  · rw [P_needRoot_f hn, P_isRoot_f hn, bndN_l, bnp_s, P_says0, bnd_s, cIf_t rfl]
    exact ⟨_, _, _, _, _, rfl, rfl, rfl, fun k e => by cases e; rfl, After.keep (Sim_thrown hS 1) (by omega) (by omega)⟩
theorem C_kind {F : Nat} {σ : oS} {μ : mS} {M : Nat} (p1 : Int32) (h : Sm σ μ M) : ∃ r σ' C N b μ', fX0_kind F σ p1 = some (r, σ', C, N) ∧ fX1_kind F μ p1 = some (b, μ') ∧ m_thrown μ' = xC r ∧ (∀ k, r = .inl k → k = 1) ∧ (∀ a, r = .inr a → a = b) ∧ After σ M σ' μ' C N := by
  obtain ⟨os, U, nl, R, hS⟩ := h
  unfold fX0_kind fX1_kind
  rcases root_cs p1 with ⟨q, hq, rfl⟩ | hn
  · rw [P_needRoot_t hq, P_isRoot_t hq, bndN_r, bnp_s, P_says1, bnd_s, cIf_f (by decide)]
    simp only [nmd_v, ck_t (in24 hq), cl24 hq]
    rcases Sim_at hS hq with ⟨e1, e2⟩ | ⟨a, o, e1, e2, hR⟩
    · rw [e1, P_kindAt0, bnd_s, mgs_root_thrown, e2, ck_t (vp_in_nI (by omega) (by omega)), nI_clamp (by omega), mgs_kind_thrown, hS.2.1.2.2.2.1]
      exact ⟨_, _, _, _, _, _, rfl, rfl, rfl, (fun k e => by cases e), (fun a e => by cases e; rfl), After.keep (Sim_thrown hS 0) (by omega) (by omega)⟩
    · obtain ⟨q1, q2, q3, q4, -⟩ := Sim_ob hS hR
      obtain ⟨k1, k2⟩ := Sim_kd (F := F) hS hR
      rw [e1, k1, bnd_s, mgs_root_thrown, e2, ck_t (vp_in_nI (by omega) (by omega)), nI_clamp (by omega), mgs_kind_thrown, k2]
      exact ⟨_, _, _, _, _, _, rfl, rfl, rfl, (fun k e => by cases e), (fun a e => by cases e; rfl), After.keep (Sim_thrown hS 0) (by omega) (by omega)⟩
  · rw [P_needRoot_f hn, P_isRoot_f hn, bndN_l, bnp_s, P_says0, bnd_s, cIf_t rfl]
    exact ⟨_, _, _, _, _, _, rfl, rfl, rfl, (fun k e => by cases e; rfl), (fun a e => by cases e), After.keep (Sim_thrown hS 1) (by omega) (by omega)⟩
theorem C_same {F : Nat} {σ : oS} {μ : mS} {M : Nat} (p1 p2 : Int32) (h : Sm σ μ M) : ∃ r σ' C N b μ', fX0_same F σ p1 p2 = some (r, σ', C, N) ∧ fX1_same F μ p1 p2 = some (b, μ') ∧ m_thrown μ' = xC r ∧ (∀ k, r = .inl k → k = 1) ∧ (∀ a, r = .inr a → a = b) ∧ After σ M σ' μ' C N := by
  obtain ⟨os, U, nl, R, hS⟩ := h
  unfold fX0_same fX1_same
  rcases root_cs p1 with ⟨q, hq, rfl⟩ | hn
  · rw [P_needRoot_t hq, P_isRoot_t hq, bndN_r, bnp_s, cIf_f (by decide)]
    rcases root_cs p2 with ⟨t, ht, rfl⟩ | hn
    · rw [P_needRoot_t ht, P_isRoot_t ht, bndN_r, bnp_s, cIf_f (by decide)]
      unfold JX1_same_20
      rw [P_says1, bnd_s, cIf_f (by decide)]
      simp only [nmd_v, ck_t (in24 hq), ck_t (in24 ht), cl24 hq, cl24 ht, mgs_root_thrown]
      have key : o_fr σ q = o_fr σ t ↔ m_root μ q = m_root μ t := by
        rcases Sim_at hS hq with ⟨e1, e2⟩ | ⟨a, o, e1, e2, hR⟩ <;> rcases Sim_at hS ht with ⟨f1, f2⟩ | ⟨b, p, f1, f2, hR'⟩
        · rw [e1, e2, f1, f2]; exact ⟨fun _ => rfl, fun _ => rfl⟩
        · obtain ⟨q1, q2, q3, q4, q5, q6, q7, q8, -⟩ := Sim_ob hS hR'
          have := okO_3 q5
          rw [e1, e2, f1, f2]
          exact ⟨fun h => absurd h.symm (nI_nm1 (by omega)), fun h => absurd (nI_inj (by omega) (by omega) h) (by omega)⟩
        · obtain ⟨q1, q2, q3, q4, q5, q6, q7, q8, -⟩ := Sim_ob hS hR
          have := okO_3 q5
          rw [e1, e2, f1, f2]
          exact ⟨fun h => absurd h (nI_nm1 (by omega)), fun h => absurd (nI_inj (by omega) (by omega) h) (by omega)⟩
        · obtain ⟨q1, q2, q3, q4, q5, q6, q7, q8, -⟩ := Sim_ob hS hR
          obtain ⟨u1, u2, u3, u4, u5, u6, u7, u8, -⟩ := Sim_ob hS hR'
          have := okO_3 q5
          have := okO_3 u5
          rw [e1, e2, f1, f2]
          constructor
          · intro h
            have := nI_inj (by omega) (by omega) h
            subst this
            rw [hS.2.2.2.1 a o p hR hR']
          · intro h
            have := nI_inj (by omega) (by omega) h
            subst this
            rw [hS.2.2.2.2.1 a b o hR hR']
      by_cases hc : o_fr σ q = o_fr σ t
      · rw [cIf_t hc, cIf_t (key.mp hc)]
        exact ⟨_, _, _, _, _, _, rfl, rfl, rfl, (fun k e => by cases e), (fun a e => by cases e; rfl), After.keep (Sim_thrown hS 0) (by omega) (by omega)⟩
      · rw [cIf_f hc, cIf_f (fun h => hc (key.mpr h))]
        exact ⟨_, _, _, _, _, _, rfl, rfl, rfl, (fun k e => by cases e), (fun a e => by cases e; rfl), After.keep (Sim_thrown hS 0) (by omega) (by omega)⟩
    · rw [P_needRoot_f hn, P_isRoot_f hn, bndN_l, bnp_s, cIf_t rfl]
      unfold JX1_same_19 JX1_same_20
      rw [P_says0, bnd_s, cIf_t rfl]
      exact ⟨_, _, _, _, _, _, rfl, rfl, rfl, (fun k e => by cases e; rfl), (fun a e => by cases e), After.keep (Sim_thrown hS 1) (by omega) (by omega)⟩
  · rw [P_needRoot_f hn, P_isRoot_f hn, bndN_l, bnp_s, cIf_t rfl]
    unfold JX1_same_19 JX1_same_20
    rw [P_says0, bnd_s, cIf_t rfl]
    exact ⟨_, _, _, _, _, _, rfl, rfl, rfl, (fun k e => by cases e; rfl), (fun a e => by cases e), After.keep (Sim_thrown hS 1) (by omega) (by omega)⟩
theorem C_stress {F : Nat} {σ : oS} {μ : mS} {M : Nat} (p1 : Int32) (h : Sm σ μ M) : ∃ r σ' C N μ', fX0_stress F σ p1 = some (r, σ', C, N) ∧ fX1_stress F μ p1 = some μ' ∧ m_thrown μ' = xC r ∧ (∀ k, r = .inl k → k = 1) ∧ After σ M σ' μ' C N := by
  obtain ⟨os, U, nl, R, hS⟩ := h
  unfold fX0_stress fX1_stress
  by_cases h0 : p1 < 0
  · rw [cIf_t h0, cIf_f (Int32.not_le.mpr h0), nmd_v]
    exact ⟨_, _, _, _, _, rfl, rfl, rfl, fun k e => by cases e; rfl, After.keep (Sim_thrown hS 1) (by omega) (by omega)⟩
  · rw [cIf_f h0, cIf_t (Int32.not_lt.mp h0), nmd_v, nmd_v, nmd_v]
    refine ⟨_, _, _, _, _, rfl, rfl, rfl, (fun k e => by cases e), ?_⟩
    obtain ⟨s, hs, rfl⟩ := nI_of h0
    have hS0 := Sim_thrown hS 0
    obtain ⟨⟨hG, hQ, hu, hN, hnk, hnd, hnm, hds, hL, st, d1, d2⟩, hMI, h1, h2, h3, h4, h5, h6, h7⟩ := hS0
    refine After.put (σ' := o_s_md (o_s_st σ (nI s)) 0) (os := os) (U := U) (nl := nl) (R := R) ⟨⟨hG, hQ, hu, hN, hnk, hnd, hnm, hds, hL, s, rfl, hs, d2.2⟩, hMI, h1, h2, h3, h4, h5, h6, 0, rfl, Nat.zero_le _⟩ rfl rfl rfl (by omega) (by omega)
theorem C_collect {F : Nat} {σ : oS} {μ : mS} {M : Nat} (hF : 1048600 < F) (h : Sm σ μ M) : ∃ a σ' μ', fX0_collect F σ = some (a, σ') ∧ fX1_collect F μ = some (a, μ') ∧ After σ M σ' μ' 0 0 := by
  obtain ⟨os, U, nl, R, hS⟩ := h
  obtain ⟨⟨hG, hQ, hu, hN, hnk, -⟩, -⟩ := id hS
  obtain ⟨σ1, mb, g1, g2⟩ := P_slide hF hG hQ hu hN (fun a ha => ((hnk a).mp ha).1)
  have hS1 := Sim_GC (Sim_thrown hS 0) g2
  obtain ⟨gR, ⟨e1, e2, e3, e4, e5, e6, e7⟩, gu, -⟩ := g2
  obtain ⟨μ', t1, t2⟩ := P_taken (F := F) (by omega) (Sim_thrown hS 0).sr gR
  unfold fX0_collect fX1_collect
  rw [g1, bnp_s, nmd_v, t1, bnd_s, gu]
  exact ⟨_, _, _, rfl, rfl, After.put (Sim_same hS1 t2) e1 e2 e3 (by omega) (by omega)⟩
