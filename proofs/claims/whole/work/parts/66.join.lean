/-! join -/
theorem Ext.old {σ1 σ2 : oS} {U k l v s : Nat} (h : Ext σ1 σ2 U k l v s) : ∀ x, x < U → o_fw σ2 x = o_fw σ1 x := h.2.2.2.2.2.2.1
theorem Rd.tx {σ : oS} {μ : mS} {R : Nat → Nat → Prop} {U M q o : Nat} (h : Rd σ μ R U M) (hq : q < 24) (hr : m_root μ q = nI o) (ho : 1 ≤ o) (ho2 : o < M) (hk : ¬ m_kind μ o = 1) : ∃ a, Tx σ μ R q a o := by
  have hM := h.2.2.2.2.2
  rcases h.2.2.2.1 q hq with ⟨e1, e2⟩ | ⟨a, p, e1, e2, hR⟩
  · have := nI_inj (a := o) (b := 0) (by omega) (by omega) (hr.symm.trans e2)
    omega
  · obtain ⟨q1, q2, q3, q4, q5⟩ := h.1 a p hR
    have e : o = p := nI_inj (by omega) (by omega) (hr.symm.trans e2)
    subst e
    exact ⟨a, hq, e1, hr, hR, ObR_T q5 (fun e => hk (by rw [q5.1, e]; rfl))⟩
theorem Tx.k1 {σ : oS} {μ : mS} {R : Nat → Nat → Prop} {q a o : Nat} (h : Tx σ μ R q a o) (hk : m_kind μ o = nI (kd (o_fw σ) a)) : ¬ m_kind μ o = 1 := by
  have := ObT_kd h.2.2.2.2
  rw [hk]
  intro e
  have := nI_inj (by omega) (by omega) (e.trans nI1l)
  omega
/-- a flat text of two, as the class makes it -/
theorem P_two {F : Nat} {σ1 σ2 : oS} {μ : mS} {os nl : List Nat} {U M s q1 q2 o1 o2 a1 a2 : Nat} {R : Nat → Nat → Prop} (hF : 4100 < F) (hS : Sim σ1 μ os U nl M R) (hX : Ext σ1 σ2 U 2 0 0 s) (hn : mlen μ o1 + mlen μ o2 ≤ 24) (hs : s = 4 + (mlen μ o1 + mlen μ o2 + 1) / 2) (hf : ∀ i, 4 ≤ i → i < s → o_fw σ2 (U + i) = 0) (h1 : Tx σ2 μ R q1 a1 o1) (h2 : Tx σ2 μ R q2 a2 o2) :
    ∃ g, bnp (fX0_copyUnits F σ2 (nI a1) 0 (nI (mlen μ o1)) (nI U) 0) (fun σ8 => ck (vp_in (nI q2) 24) (nmd (o_fr σ8 (nI q2).toNatClampNeg) (fun x10 => bnp (fX0_copyUnits F σ8 x10 0 (nI (mlen μ o2)) (nI U) (nI (mlen μ o1))) (fun σ11 => some ((.inr (nI U) : Int32 ⊕ Int32), σ11, 0, 0))))) = some (.inr (nI U), o_s_fw σ2 g, 0, 0) ∧ (∀ x, x < U + 4 ∨ U + s ≤ x → g x = o_fw σ2 x) ∧ (∀ j, j < mlen μ o1 + mlen μ o2 → un g U j = if j < mlen μ o1 then uo μ o1 j else uo μ o2 (j - mlen μ o1)) ∧ ((mlen μ o1 + mlen μ o2) % 2 = 1 → un g U (mlen μ o1 + mlen μ o2) = 0) := by
  have hR := hX.rd hS
  obtain ⟨w1, w2, w3, w4, w5⟩ := h1
  obtain ⟨v1, v2, v3, v4, v5⟩ := h2
  have flat : ∀ a o, R a o → ObT (o_fw σ2) μ R a o → mlen μ o ≤ 24 → a + 4 + (mlen μ o + 1) / 2 ≤ U ∧ ∀ k, k < mlen μ o → un (o_fw σ2) a k = uo μ o k := by
    intro a o hRa hT hl
    obtain ⟨q1, q2, -⟩ := hR.1 a o hRa
    obtain ⟨t1, t2, t3, n, t4, t5, t6, ht⟩ := hT
    have e : mlen μ o = n := by unfold mlen; rw [t5, nI_clamp (by omega)]
    rw [e] at hl ⊢
    rcases ht with ⟨x1, x2, x3, x4, x5⟩ | ⟨x1, x2, x3, x4, -⟩ | ⟨x1, x2, x3, x4, -⟩
    · exact ⟨by omega, x4⟩
    · omega
    · omega
  obtain ⟨f1, f2⟩ := flat a1 o1 w4 w5 (by omega)
  obtain ⟨g1, g2⟩ := flat a2 o2 v4 v5 (by omega)
  have hlw := hX.2.2.2.2.1
  have hlb := hR.2.2.1
  obtain ⟨c, c1, c2, c3⟩ := P_copyUnits (F := F) (σ := σ2) (a := a1) (b := U) (W := s - 4) (frm := 0) (to := mlen μ o1) (pos := 0) hF (by omega) (by omega) (by omega) (by omega) (by omega) hlb (fun j _ hj => un_fresh hf (by omega))
  obtain ⟨d, d1, d2, d3⟩ := P_copyUnits (F := F) (σ := o_s_fw σ2 c) (a := a2) (b := U) (W := s - 4) (frm := 0) (to := mlen μ o2) (pos := mlen μ o1) hF (by omega) (by omega) (by omega) (by omega) (by show U + 4 + (s - 4) ≤ o_lw σ2; omega) hlb (fun j hj1 hj2 => by
    refine (c3 j).trans ?_
    rw [if_neg (by omega)]
    exact un_fresh hf (by omega))
  have c1' : fX0_copyUnits F σ2 (nI a1) 0 (nI (mlen μ o1)) (nI U) 0 = some (o_s_fw σ2 c) := c1
  have d1' : fX0_copyUnits F (o_s_fw σ2 c) (nI a2) 0 (nI (mlen μ o2)) (nI U) (nI (mlen μ o1)) = some (o_s_fw (o_s_fw σ2 c) d) := d1
  have hx2 : o_fr (o_s_fw σ2 c) q2 = nI a2 := v2
  refine ⟨d, ?_, fun x hx => (d2 x (by omega)).trans (c2 x (by omega)), fun j hj => ?_, fun hodd => ?_⟩
  · rw [c1', bnp_s, ck_t (in24 v1), cl24 v1, nmd_v, hx2, d1', bnp_s]
    rfl
  · rw [d3 j]
    by_cases hc : j < mlen μ o1
    · rw [if_neg (by omega), if_pos hc]
      refine (c3 j).trans ?_
      rw [if_pos (by omega), Nat.zero_add, Nat.sub_zero]
      exact f2 j hc
    · rw [if_pos (by omega), if_neg hc, Nat.zero_add]
      refine Eq.trans ?_ (g2 _ (by omega))
      unfold un
      show (c (a2 + 4 + (j - mlen μ o1) / 2)).toBitVec.toNat / _ % _ = _
      rw [c2 _ (by omega)]
  · rw [d3, if_neg (by omega)]
    refine (c3 _).trans ?_
    rw [if_neg (by omega)]
    exact un_fresh hf (by omega)
theorem uo_new2 {μ μ3 : mS} {M t1 t2 k : Nat} (hI : MI μ M) (hI3 : MI μ3 (M + 1)) (hA : AgB μ μ3 M) (hm : m_madeOf μ3 M = 2) (ha : m_a μ3 M = nI t1) (hb : m_b μ3 M = nI t2) (h1 : 1 ≤ t1) (h2 : t1 < M) (h3 : 1 ≤ t2) (h4 : t2 < M) : uo μ3 M k = if k < mlen μ t1 then uo μ t1 k else uo μ t2 (k - mlen μ t1) := by
  have e : mlen μ3 t1 = mlen μ t1 := by unfold mlen; rw [(hA.txt t1 h1 h2).1]
  rw [uo_2 hI3.2.1 hI3.mt hI.1 (by omega) hm ha hb h1 h2 h3 h4, e, hA.uoE hI.2.1 hI.mt h1 h2, hA.uoE hI.2.1 hI.mt h3 h4]
theorem C_join {F : Nat} {σ : oS} {μ : mS} {M : Nat} (hF : 1048600 < F) (hM : M + 2 ≤ 4000) (p1 p2 p3 : Int32) (h : Sm σ μ M) : ∃ r σ' C N μ', fX0_join F σ p1 p2 p3 = some (r, σ', C, N) ∧ fX1_join F μ p1 p2 p3 = some μ' ∧ m_thrown μ' = xC r ∧ After σ M σ' μ' C N := by
  obtain ⟨os, U, nl, R, hS⟩ := h
  have fail : ∀ v1 v2 v3, JX1_join_28 F μ v1 v2 v3 = some (m_s_thrown μ 1) := fun v1 v2 v3 => by
    unfold JX1_join_28 JX1_join_29
    rw [P_says0, bnd_s, cIf_t rfl]
  unfold fX0_join fX1_join
  rcases root_cs p1 with ⟨q, hq, rfl⟩ | hn
  · rw [P_needRoot_t hq, P_isRoot_t hq, bndN_r, bnp_s, cIf_f one_ne0]
    rcases P_txt (F := F) hS p2 with ⟨h1, h2⟩ | ⟨q1, a1, o1, rfl, hT1, h1, h2⟩
    · rw [h1, h2, bndX_l, bnd_s, cIf_t rfl, fail]
      exact ⟨_, _, _, _, _, rfl, rfl, rfl, After.keep (Sim_thrown hS 1) (by omega) (by omega)⟩
    rw [h1, h2, bndX_r, bnd_s, cIf_f one_ne0]
    rcases P_txt (F := F) hS p3 with ⟨h1, h2⟩ | ⟨q2, a2, o2, rfl, hT2, h1, h2⟩
    · rw [h1, h2, bndX_l, bnd_s, cIf_t rfl, fail]
      exact ⟨_, _, _, _, _, rfl, rfl, rfl, After.keep (Sim_thrown hS 1) (by omega) (by omega)⟩
    obtain ⟨w1, w2, w3, w4, w5⟩ := id hT1
    obtain ⟨v1, v2, v3, v4, v5⟩ := id hT2
    obtain ⟨b1, b2, b3, b4, b5, b6, b7, b8, b9⟩ := Sim_ob hS w4
    obtain ⟨c1, c2, c3, c4, c5, c6, c7, c8, c9⟩ := Sim_ob hS v4
    obtain ⟨l1, l2, -⟩ := ObT_len w5
    obtain ⟨m1, m2, -⟩ := ObT_len v5
    have hin1 : vp_in (nI o1) 4096 := vp_in_nI (by omega) (by omega)
    have hcl1 : (nI o1).toNatClampNeg = o1 := nI_clamp (by omega)
    have hin2 : vp_in (nI o2) 4096 := vp_in_nI (by omega) (by omega)
    have hcl2 : (nI o2).toNatClampNeg = o2 := nI_clamp (by omega)
    rw [h1, h2, bndX_r, bnd_s, cIf_f one_ne0, P_lengthIn hS.rd hT1, bnd_s, P_lengthIn hS.rd hT2, bnd_s, nI_add]
    unfold JX1_join_29
    rw [P_says1, bnd_s, cIf_f one_ne0]
    simp only [nmd_v, ck_t (in24 w1), ck_t (in24 v1), ck_t (in24 hq), cl24 w1, cl24 v1, cl24 hq, mgs_root_thrown]
    rw [w3, v3, ck_t hin1, hcl1, ck_t hin2, hcl2, ck_t hin1, ck_t hin2, mgs_length_thrown, l1, m1, nI_add, w2, v2]
    have e4000 : (4000 : Int32) = nI 4000 := rfl
    have e24 : (24 : Int32) = nI 24 := rfl
    rw [e4000, e24]
    have hS0 := Sim_thrown hS 0
    by_cases hz1 : mlen μ o1 = 0
    · rw [cIf_t (nI_le (by omega) (by omega)), cIf_t (show nI (mlen μ o1) = 0 by rw [hz1]; rfl), cIf_t (show nI (mlen μ o1) = 0 by rw [hz1]; rfl)]
      unfold JX1_join_89
      rw [ck_t hin1, hcl1, nmd_v, mgs_length_thrown, l1, cIf_t (show nI (mlen μ o1) = 0 by rw [hz1]; rfl), ck_t (in24 hq), cl24 hq, nmd_v]
      exact ⟨_, _, _, _, _, rfl, rfl, rfl, After.put (Sim_root (q := q) hS0 (Or.inr ⟨a2, o2, rfl, rfl, v4⟩)) rfl rfl rfl (by omega) (by omega)⟩
    have hne1 : ¬ nI (mlen μ o1) = 0 := nI_ne0 (by omega) (by omega)
    rw [cIf_f hne1, cIf_f hne1]
    by_cases hz2 : mlen μ o2 = 0
    · rw [cIf_t (nI_le (by omega) (by omega)), cIf_t (show nI (mlen μ o2) = 0 by rw [hz2]; rfl), cIf_t (show nI (mlen μ o2) = 0 by rw [hz2]; rfl)]
      unfold JX1_join_89
      rw [ck_t hin1, hcl1, nmd_v, mgs_length_thrown, l1, cIf_f hne1, ck_t (in24 hq), cl24 hq, nmd_v]
      exact ⟨_, _, _, _, _, rfl, rfl, rfl, After.put (Sim_root (q := q) hS0 (Or.inr ⟨a1, o1, rfl, rfl, w4⟩)) rfl rfl rfl (by omega) (by omega)⟩
    have hne2 : ¬ nI (mlen μ o2) = 0 := nI_ne0 (by omega) (by omega)
    rw [cIf_f hne2, cIf_f hne2]
    by_cases hbig : 4000 < mlen μ o1 + mlen μ o2
    · rw [cIf_f (nI_ge hbig (by omega)), cIf_f (nI_ge hbig (by omega))]
      unfold JX1_join_144
      rw [P_full0, bnd_s, cIf_t rfl]
      exact ⟨_, _, _, _, _, rfl, rfl, rfl, After.keep (Sim_thrown hS0 2) (by omega) (by omega)⟩
    rw [cIf_t (nI_le (by omega) (by omega)), cIf_t (nI_le (by omega) (by omega))]
    obtain ⟨L, hL, hmL, hLb⟩ := Sim_L hS0
    obtain ⟨hMI1, hMI2, ho, hk0, -⟩ := id hS0.2.1
    have hk1 := hT1.k1 b9.1
    have hk2 := hT2.k1 c9.1
    by_cases h24 : mlen μ o1 + mlen μ o2 ≤ 24
    · rw [cIf_t (nI_le h24 (by omega)), cIf_f (nI_nlt h24 (by omega))]
      unfold JX1_join_138
      unfold fX0_makeFlatOfTwo
      rw [P_lengthIn hS.rd hT1, bnd_s, P_lengthIn hS.rd hT2, bnd_s, nI_add]
      obtain ⟨σ1, os1, U1, nl1, R1, hS1, hl1, hp1, hmk⟩ := P_makeFlat hF hS0 (k := 2) (n := mlen μ o1 + mlen μ o2) (by omega) (by omega) rfl hL hLb
      obtain ⟨mm1, mm2⟩ := P_mmake (k := 2) (n := mlen μ o1 + mlen μ o2) (h := 2) (s := 4 + (mlen μ o1 + mlen μ o2 + 1) / 2) hF hS0 (AgB.rf _ M) ho rfl hmL hLb (by omega) (fun μ' y1 y2 _ _ _ => words_flat (by omega) (by omega) (Or.inl rfl) y1 y2)
      rcases hmk with ⟨hf, x1⟩ | ⟨hf, σ2, C, N, x1, hX, x3, x4, x5, x6⟩
      · obtain ⟨μ2, d1, hFm⟩ := mm2 hf
        have d1' : fX1_make F (m_s_thrown μ 0) 2 (nI (mlen μ o1 + mlen μ o2)) 2 = some (0, μ2) := d1
        have x1' : fX0_makeFlat F σ 2 (nI (mlen μ o1 + mlen μ o2)) = some (.inl 2, σ1, 1, 6) := x1
        rw [x1', d1', bndX_l, bndX_l, bnd_s]
        unfold JX1_join_144
        rw [P_full0, bnd_s, cIf_t rfl]
        exact ⟨_, _, _, _, _, rfl, rfl, rfl, After.mk (Sim_thrown (Sim_MkF hS1 hFm) 2) (Nat.le_refl _) (by omega) hL hl1 (by omega) hp1 (σ2 := σ1) (by omega) (Nat.le_refl _)⟩
      · obtain ⟨μ2, d1, f1, f2, f3, f4, f5, f6, f7, f8, f9, f10, f11, f12, f13, f14, f15, f16, f17, f18⟩ := mm1 hf
        have d1' : fX1_make F (m_s_thrown μ 0) 2 (nI (mlen μ o1 + mlen μ o2)) 2 = some (nI M, μ2) := d1
        have x1' : fX0_makeFlat F σ 2 (nI (mlen μ o1 + mlen μ o2)) = some (.inr (nI U1), σ2, C, N) := x1
        have hRd := hX.rd hS1
        obtain ⟨a1', hT1'⟩ := hRd.tx (q := q1) w1 w3 b2 b3 hk1
        obtain ⟨a2', hT2'⟩ := hRd.tx (q := q2) v1 v3 c2 c3 hk2
        obtain ⟨g, g1, g2, g3, g4⟩ := P_two (F := F) (μ := m_s_thrown μ 0) (o1 := o1) (o2 := o2) (by omega) hS1 hX h24 rfl x4 hT1' hT2'
        have g1' : bnp (fX0_copyUnits F σ2 (nI a1') 0 (nI (mlen μ o1)) (nI U1) 0) (fun σ8 => ck (vp_in (nI q2) 24) (nmd (o_fr σ8 (nI q2).toNatClampNeg) (fun x10 => bnp (fX0_copyUnits F σ8 x10 0 (nI (mlen μ o2)) (nI U1) (nI (mlen μ o1))) (fun σ11 => some ((.inr (nI U1) : Int32 ⊕ Int32), σ11, 0, 0))))) = some (.inr (nI U1), o_s_fw σ2 g, 0, 0) := g1
        have hX3 : Ext σ1 (o_s_fw σ2 g) U1 2 0 0 (4 + (mlen μ o1 + mlen μ o2 + 1) / 2) := hX.fill (fun x hx => g2 x (by omega))
        rw [x1', d1', bnd_s]
        unfold JX1_join_144
        rw [P_full1 (by omega) (by omega), bnd_s, cIf_f (nI_ne0 (by omega) (by omega)), ck_t (vp_in_nI (by omega) (by omega)), nI_clamp (n := M) (by omega), nmd_v, ck_t (vp_in_nI (by omega) (by omega)), nmd_v, ck_t (in24 hq), nmd_v, cl24 hq]
        generalize hμ3 : m_s_b (m_s_a (m_s_thrown μ2 0) (upd (m_a (m_s_thrown μ2 0)) M (nI o1))) (upd (m_b (m_s_a (m_s_thrown μ2 0) (upd (m_a (m_s_thrown μ2 0)) M (nI o1)))) M (nI o2)) = μ3
        have hT : TxM (m_s_thrown μ 0) μ3 M 2 (mlen μ o1 + mlen μ o2) 2 := by
          subst hμ3
          exact ⟨f2, f3, f4, f5, f6, f7, f8, f9, f10, f11, f12, f13, f14, f18, fun o ho2 => ⟨(pk_un (by omega)).trans (congrFun f15 o), (pk_un (by omega)).trans (congrFun f16 o), congrFun f17 o⟩⟩
        have ha3 : m_a μ3 M = nI o1 := by subst hμ3; exact pk_us
        have hb3 : m_b μ3 M = nI o2 := by subst hμ3; exact pk_us
        have ht3 : m_thrown μ3 = 0 := by subst hμ3; rfl
        have hmo : m_madeOf μ3 M = 2 := by subst hμ3; exact (congrFun f14 M).trans pk_us
        have hMI' := hT.mi hS1.2.1 (by omega) (by omega) (Or.inr (Or.inr ⟨rfl, o1, o2, ha3, hb3, b2, b3, c2, c3, rfl, by show 1 ≤ mlen μ o1; omega, by show 1 ≤ mlen μ o2; omega⟩))
        have hS3 := Sim_txt hS1 hX3 (by omega) rfl ((g2 _ (by omega)).trans x3) (fun i hi => by
          rw [uo_new2 hS1.2.1 hMI' hT.agb hmo ha3 hb3 b2 b3 c2 c3]
          exact g3 i hi) (fun ho2 => g4 ho2) hT hMI'
        have hS4 := Sim_root (q := q) hS3 (x := nI U1) (y := nI M) (Or.inr ⟨U1, M, rfl, rfl, Or.inr ⟨rfl, rfl⟩⟩)
        refine ⟨.inr (), _, (C + 0) + 0, (N + 0) + 0, _, ?_, rfl, ht3, After.mk (σ1 := σ1) (σ2 := σ2) hS4 (by omega) (by omega) hL (hX.1.1.trans hl1) (by omega) hp1 (by omega) (Nat.le_refl _)⟩
        rw [bndX_k (r := .inr (nI U1)) (σ' := o_s_fw σ2 g) (C := 0) (N := 0) (by
          rw [ck_t (in24 w1), cl24 w1, nmd_v, hT1'.2.1]
          exact g1')]
        exact bndX_k rfl
    · rw [cIf_f (nI_ge (by omega) (by omega)), cIf_t (nI_lt (by omega) (by omega))]
      unfold JX1_join_138
      unfold fX0_makeJoined
      obtain ⟨σ1, os1, U1, nl1, R1, hS1, hl1, hp1, hmk⟩ := P_make hF hS0 (k := 3) (l := 2) (v := 0) (p := 1) (s := 6) (by omega) (by omega) (by omega) rfl (by omega) hL hLb
      obtain ⟨mm1, mm2⟩ := P_mmake (k := 3) (n := mlen μ o1 + mlen μ o2) (h := 2) (s := 6) hF hS0 (AgB.rf _ M) ho rfl hmL hLb (by omega) (fun μ' y1 y2 _ _ _ => words_joint (by omega) y1)
      rcases hmk with ⟨hf, x1⟩ | ⟨hf, σ2, C, N, x1, hMk, x5, x6⟩
      · obtain ⟨μ2, d1, hFm⟩ := mm2 hf
        have d1' : fX1_make F (m_s_thrown μ 0) 3 (nI (mlen μ o1 + mlen μ o2)) 2 = some (0, μ2) := d1
        have x1' : fX0_make F σ 3 2 0 1 = some (.inl 2, σ1, 1, 6) := x1
        rw [x1', d1', bndX_l, bndX_l, bnd_s]
        unfold JX1_join_144
        rw [P_full0, bnd_s, cIf_t rfl]
        exact ⟨_, _, _, _, _, rfl, rfl, rfl, After.mk (Sim_thrown (Sim_MkF hS1 hFm) 2) (Nat.le_refl _) (by omega) hL hl1 (by omega) hp1 (σ2 := σ1) (by omega) (Nat.le_refl _)⟩
      · obtain ⟨μ2, d1, f1, f2, f3, f4, f5, f6, f7, f8, f9, f10, f11, f12, f13, f14, f15, f16, f17, f18⟩ := mm1 hf
        have d1' : fX1_make F (m_s_thrown μ 0) 3 (nI (mlen μ o1 + mlen μ o2)) 2 = some (nI M, μ2) := d1
        have x1' : fX0_make F σ 3 2 0 1 = some (.inr (nI U1), σ2, C, N) := x1
        have hX := hMk.ext
        have hRd := hX.rd hS1
        obtain ⟨a1', hT1'⟩ := hRd.tx (q := q1) w1 w3 b2 b3 hk1
        obtain ⟨a2', hT2'⟩ := hRd.tx (q := q2) v1 v3 c2 c3 hk2
        obtain ⟨E, u1, u2, u3, u4, u5, n1, n2, n3, n4, n5⟩ := id hMk
        have hlw := u5 L hl1 hLb
        obtain ⟨r1, r2, r3, r4, r5⟩ := hdr_rd (f := o_fw σ2) (a := U1) (k := 3) (l := 2) (v := 0) (s := 6) (by omega) (by omega) (by omega) (by omega) n2
        have e1 : fX0_lengthIn F σ2 (nI q1) = some (nI (mlen μ o1), σ2) := P_lengthIn (μ := m_s_thrown μ 0) hRd hT1'
        have e2 : fX0_lengthIn F σ2 (nI q2) = some (nI (mlen μ o2), σ2) := P_lengthIn (μ := m_s_thrown μ 0) hRd hT2'
        rw [x1', d1', bnd_s]
        unfold JX1_join_144
        rw [P_full1 (by omega) (by omega), bnd_s, cIf_f (nI_ne0 (by omega) (by omega)), ck_t (vp_in_nI (by omega) (by omega)), nI_clamp (n := M) (by omega), nmd_v, ck_t (vp_in_nI (by omega) (by omega)), nmd_v, ck_t (in24 hq), nmd_v, cl24 hq]
        generalize hμ3 : m_s_b (m_s_a (m_s_thrown μ2 0) (upd (m_a (m_s_thrown μ2 0)) M (nI o1))) (upd (m_b (m_s_a (m_s_thrown μ2 0) (upd (m_a (m_s_thrown μ2 0)) M (nI o1)))) M (nI o2)) = μ3
        have hT : TxM (m_s_thrown μ 0) μ3 M 3 (mlen μ o1 + mlen μ o2) 2 := by
          subst hμ3
          exact ⟨f2, f3, f4, f5, f6, f7, f8, f9, f10, f11, f12, f13, f14, f18, fun o ho2 => ⟨(pk_un (by omega)).trans (congrFun f15 o), (pk_un (by omega)).trans (congrFun f16 o), congrFun f17 o⟩⟩
        have ha3 : m_a μ3 M = nI o1 := by subst hμ3; exact pk_us
        have hb3 : m_b μ3 M = nI o2 := by subst hμ3; exact pk_us
        have ht3 : m_thrown μ3 = 0 := by subst hμ3; rfl
        have hmo : m_madeOf μ3 M = 2 := by subst hμ3; exact (congrFun f14 M).trans pk_us
        have hkn : m_kind μ3 M = nI 3 := by subst hμ3; exact (congrFun f5 M).trans pk_us
        have hMI' := hT.mi hS1.2.1 (by omega) (by omega) (Or.inr (Or.inr ⟨rfl, o1, o2, ha3, hb3, b2, b3, c2, c3, rfl, by show 1 ≤ mlen μ o1; omega, by show 1 ≤ mlen μ o2; omega⟩))
        obtain ⟨tl1, tl2, tl3⟩ := hS1.2.1.tl
        have hlM : m_length μ3 M = nI (mlen μ o1 + mlen μ o2) := (hT.len (by omega)).1
        have hlinks : m_links μ3 M = 0 := by rw [hT.2.2.2.2.1]; exact (tl1 M (Nat.le_refl _)).1
        have hvals : m_values μ3 M = 0 := by rw [hT.2.2.2.2.2.1]; exact (tl1 M (Nat.le_refl _)).2
        generalize hσ3 : o_s_fw (o_s_fw (o_s_fw σ2 (upd (o_fw σ2) (U1 + 3 + 2) (nI (mlen μ o1 + mlen μ o2)))) (upd (upd (o_fw σ2) (U1 + 3 + 2) (nI (mlen μ o1 + mlen μ o2))) (U1 + 3) (nI a1'))) (upd (upd (upd (o_fw σ2) (U1 + 3 + 2) (nI (mlen μ o1 + mlen μ o2))) (U1 + 3) (nI a1')) (U1 + 4) (nI a2')) = σ3
        have hX3 : Ext σ1 σ3 U1 3 2 0 6 := by
          subst hσ3
          exact ((hX.put (by omega)).put (by omega)).put (by omega)
        have y3 : o_fw σ3 (U1 + 3) = nI a1' := by subst hσ3; exact (pk_un (by omega)).trans pk_us
        have y4 : o_fw σ3 (U1 + 4) = nI a2' := by subst hσ3; exact pk_us
        have y5 : o_fw σ3 (U1 + 3 + 2) = nI (mlen μ o1 + mlen μ o2) := by subst hσ3; exact (pk_un (by omega)).trans ((pk_un (by omega)).trans pk_us)
        have hevj : ck (vp_in (nI U1 + 3 + 2) (o_lw σ2)) (nmd (o_s_fw σ2 (upd (o_fw σ2) (nI U1 + 3 + 2).toNatClampNeg (nI (mlen μ o1 + mlen μ o2)))) (fun σ4 => some σ4)) = some (o_s_fw σ2 (upd (o_fw σ2) (U1 + 3 + 2) (nI (mlen μ o1 + mlen μ o2)))) := by
          rw [nI_p3, nI_p2, ck_t (vp_in_nI (by omega) (by omega)), nI_clamp (by omega), nmd_v]
        have hev : (bnd (fX0_lengthIn F σ2 (nI q1)) (fun r3 σ2 => bnd (fX0_lengthIn F σ2 (nI q2)) (fun r5 σ4 => bnp (fX0_putLength F σ4 (nI U1) (r3 + r5)) (fun σ6 => ck (vp_in (nI q1) 24) (nmd (o_fr σ6 (nI q1).toNatClampNeg) (fun x8 => ck (vp_in (nI U1 + 3) (o_lw σ6)) (nmd (o_s_fw σ6 (upd (o_fw σ6) (nI U1 + 3).toNatClampNeg x8)) (fun σ10 => ck (vp_in (nI q2) 24) (nmd (o_fr σ10 (nI q2).toNatClampNeg) (fun x12 => ck (vp_in (nI U1 + 4) (o_lw σ10)) (nmd (o_s_fw σ10 (upd (o_fw σ10) (nI U1 + 4).toNatClampNeg x12)) (fun σ14 => some ((.inr (nI U1) : Int32 ⊕ Int32), σ14, 0, 0))))))))))))) = some (.inr (nI U1), σ3, 0, 0) := by
          rw [e1, bnd_s, e2, bnd_s, nI_add]
          unfold fX0_putLength
          rw [P_linksAt (by omega) (by omega) r5, bnd_s, r2, ← nI2l, hevj, bnp_s, ck_t (in24 w1), cl24 w1, nmd_v, nI_p3, nI_p4]
          have z1 : o_fr (o_s_fw σ2 (upd (o_fw σ2) (U1 + 3 + 2) (nI (mlen μ o1 + mlen μ o2)))) q1 = nI a1' := hT1'.2.1
          rw [z1]
          show ck (vp_in (nI (U1 + 3)) (o_lw σ2)) _ = _
          rw [ck_t (vp_in_nI (by omega) (by omega)), nmd_v, nI_clamp (n := U1 + 3) (by omega), ck_t (in24 v1), cl24 v1, nmd_v]
          have z2 : ∀ f f', o_fr (o_s_fw (o_s_fw σ2 f) f') q2 = nI a2' := fun _ _ => hT2'.2.1
          rw [z2]
          show ck (vp_in (nI (U1 + 4)) (o_lw σ2)) _ = _
          rw [ck_t (vp_in_nI (by omega) (by omega)), nmd_v, nI_clamp (n := U1 + 4) (by omega), ← hσ3]
          rfl
        obtain ⟨r1', r2', r3', r4', r5'⟩ := hdr_rd (f := o_fw σ3) (a := U1) (k := 3) (l := 2) (v := 0) (s := 6) (by omega) (by omega) (by omega) (by omega) hX3.2.2.2.2.2.2.2.1
        have hob : ObR (o_fw σ3) μ3 (RA R1 U1 M) U1 M := by
          refine ⟨by rw [r1']; exact hkn, Or.inr ⟨r3', hlinks, hvals, mlen μ o1 + mlen μ o2, by omega, hlM, by rw [r2']; exact y5, Or.inr (Or.inl ⟨r1', r2', r4', by omega, hmo, ⟨a1', o1, y3, ha3, Or.inl hT1'.2.2.2.1⟩, a2', o2, y4, hb3, Or.inl hT2'.2.2.2.1⟩)⟩⟩
        have hS3 := Sim_new hS1 hX3 (by omega) (by omega) (by omega) (by omega) (by omega) (by omega) (fun i hi => by
          have hi2 : i = 0 ∨ i = 1 := by omega
          rcases hi2 with rfl | rfl
          · exact Or.inr ⟨a1', (hS1.2.2.1 a1' o1 hT1'.2.2.2.1).1, y3⟩
          · exact Or.inr ⟨a2', (hS1.2.2.1 a2' o2 hT2'.2.2.2.1).1, y4⟩) (fun j hj => absurd hj (by omega)) hT.agb hMI' hT.2.1 hT.1 hob
        have hS4 := Sim_root (q := q) hS3 (x := nI U1) (y := nI M) (Or.inr ⟨U1, M, rfl, rfl, Or.inr ⟨rfl, rfl⟩⟩)
        have hpe : pot σ3 = pot σ2 := by subst hσ3; rfl
        refine ⟨.inr (), _, (C + 0) + 0, (N + 0) + 0, _, ?_, rfl, ht3, After.mk (σ1 := σ1) (σ2 := σ2) hS4 (by omega) (by omega) hL (hX3.1.1.trans hl1) (by omega) hp1 (by omega) (Nat.le_of_eq hpe.symm)⟩
        rw [bndX_k (r := .inr (nI U1)) (σ' := σ3) (C := 0) (N := 0) hev]
        exact bndX_k rfl
  · rw [P_needRoot_f hn, P_isRoot_f hn, bndN_l, bnp_s, cIf_t rfl, fail]
    exact ⟨_, _, _, _, _, rfl, rfl, rfl, After.keep (Sim_thrown hS 1) (by omega) (by omega)⟩
