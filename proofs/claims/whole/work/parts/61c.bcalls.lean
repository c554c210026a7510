/-! the calls on blocks -/
theorem Bk.thrown {σ : oS} {μ : mS} {R : Nat → Nat → Prop} {q a o : Nat} (h : Bk σ μ R q a o) (x : Int32) : Bk σ (m_s_thrown μ x) R q a o := h
theorem e8i (o i : Nat) : (8 : Int32) * nI o + nI i = nI (8 * o + i) := by rw [show (8 : Int32) * nI o = nI (8 * o) from pk_mul 8 o, nI_add]
theorem e16i (o i : Nat) : (16 : Int32) * nI o + nI i = nI (16 * o + i) := by rw [show (16 : Int32) * nI o = nI (16 * o) from pk_mul 16 o, nI_add]
section BC
variable {F : Nat} {σ : oS} {μ : mS} {M : Nat}
theorem C_tie (p1 p2 p3 : Int32) (h : Sm σ μ M) : ∃ r σ' C N μ', fX0_tie F σ p1 p2 p3 = some (r, σ', C, N) ∧ fX1_tie F μ p1 p2 p3 = some μ' ∧ m_thrown μ' = xC r ∧ (∀ k, r = .inl k → k = 1) ∧ After σ M σ' μ' C N := by
  obtain ⟨os, U, nl, R, hS⟩ := h
  unfold fX0_tie fX1_tie
  rcases P_link (F := F) hS p1 p2 with ⟨h1, h2⟩ | ⟨q, a, o, i, rfl, rfl, hB, hi, h1, h2⟩
  · rw [h1, h2, bndX_l, bnd_s, cIf_t rfl]
    unfold JX1_tie_21 JX1_tie_22
    rw [P_says0, bnd_s, cIf_t rfl]
    exact ⟨_, _, _, _, _, rfl, rfl, rfl, fun k e => by cases e; rfl, After.keep (Sim_thrown hS 1) (by omega) (by omega)⟩
  · rw [h1, h2, bndX_r, bnd_s, cIf_f one_ne0]
    obtain ⟨hq, e1, e2, hR, hb⟩ := id hB
    obtain ⟨q1, q2, q3, q4, q5, q6, q7, q8, q9⟩ := Sim_ob hS hR
    have hsz := q5.2
    have hl8 := hb.2.1
    rcases root_cs p3 with ⟨t, ht, rfl⟩ | hn
    · rw [P_needRoot_t ht, P_isRoot_t ht, bndN_r, bnp_s, cIf_f one_ne0]
      unfold JX1_tie_22
      rw [P_says1, bnd_s, cIf_f one_ne0]
      simp only [nmd_v, ck_t (in24 hq), ck_t (in24 ht), cl24 hq, cl24 ht, mgs_root_thrown]
      rw [e2, e8i, ck_t (vp_in_nI (by omega) (by omega)), ck_t (vp_in_nI (by omega) (by omega)), nI_clamp (by omega), nI_clamp (by omega)]
      exact ⟨_, _, _, _, _, rfl, rfl, rfl, (fun k e => by cases e), After.put (Sim_link (Sim_thrown hS 0) (hB.thrown 0) hi (hS.2.2.2.2.2.1 t ht)) rfl rfl rfl (by omega) (by omega)⟩
    · rw [P_needRoot_f hn, P_isRoot_f hn, bndN_l, bnp_s, cIf_t rfl]
      unfold JX1_tie_21 JX1_tie_22
      rw [P_says0, bnd_s, cIf_t rfl]
      exact ⟨_, _, _, _, _, rfl, rfl, rfl, fun k e => by cases e; rfl, After.keep (Sim_thrown hS 1) (by omega) (by omega)⟩
theorem C_lead (p1 p2 p3 : Int32) (h : Sm σ μ M) : ∃ r σ' C N μ', fX0_lead F σ p1 p2 p3 = some (r, σ', C, N) ∧ fX1_lead F μ p1 p2 p3 = some μ' ∧ m_thrown μ' = xC r ∧ (∀ k, r = .inl k → k = 1) ∧ After σ M σ' μ' C N := by
  obtain ⟨os, U, nl, R, hS⟩ := h
  unfold fX0_lead fX1_lead
  rcases P_link (F := F) hS p1 p2 with ⟨h1, h2⟩ | ⟨q, a, o, i, rfl, rfl, hB, hi, h1, h2⟩
  · rw [h1, h2, bndX_l, bnd_s, cIf_t rfl]
    unfold JX1_lead_21 JX1_lead_22
    rw [P_says0, bnd_s, cIf_t rfl]
    exact ⟨_, _, _, _, _, rfl, rfl, rfl, fun k e => by cases e; rfl, After.keep (Sim_thrown hS 1) (by omega) (by omega)⟩
  · rw [h1, h2, bndX_r, bnd_s, cIf_f one_ne0]
    obtain ⟨hq, e1, e2, hR, hb⟩ := id hB
    obtain ⟨q1, q2, q3, q4, q5, q6, q7, q8, q9⟩ := Sim_ob hS hR
    have hsz := q5.2
    have hl8 := hb.2.1
    rcases root_cs p3 with ⟨t, ht, rfl⟩ | hn
    · rw [P_needRoot_t ht, P_isRoot_t ht, bndN_r, bnp_s, cIf_f one_ne0]
      unfold JX1_lead_22
      rw [P_says1, bnd_s, cIf_f one_ne0]
      simp only [nmd_v, ck_t (in24 hq), ck_t (in24 ht), cl24 hq, cl24 ht, mgs_root_thrown]
      rw [e2, e8i, ck_t (vp_in_nI (by omega) (by omega)), ck_t (vp_in_nI (by omega) (by omega)), nI_clamp (by omega), nI_clamp (by omega)]
      exact ⟨_, _, _, _, _, rfl, rfl, rfl, (fun k e => by cases e), After.put (Sim_root (q := t) (Sim_thrown hS 0) (hb.2.2.2.2.2.2.2.1 i hi)) rfl rfl rfl (by omega) (by omega)⟩
    · rw [P_needRoot_f hn, P_isRoot_f hn, bndN_l, bnp_s, cIf_t rfl]
      unfold JX1_lead_21 JX1_lead_22
      rw [P_says0, bnd_s, cIf_t rfl]
      exact ⟨_, _, _, _, _, rfl, rfl, rfl, fun k e => by cases e; rfl, After.keep (Sim_thrown hS 1) (by omega) (by omega)⟩
theorem C_number (p1 p2 : Int32) (p3 : Int64) (h : Sm σ μ M) : ∃ r σ' C N μ', fX0_number F σ p1 p2 p3 = some (r, σ', C, N) ∧ fX1_number F μ p1 p2 p3 = some μ' ∧ m_thrown μ' = xC r ∧ (∀ k, r = .inl k → k = 1) ∧ After σ M σ' μ' C N := by
  obtain ⟨os, U, nl, R, hS⟩ := h
  unfold fX0_number fX1_number
  rcases P_val (F := F) hS p1 p2 with ⟨h1, h2⟩ | ⟨q, a, o, i, rfl, rfl, hB, hi, h1, h2⟩
  · rw [h1, h2, bndX_l, bnd_s, cIf_t rfl]
    unfold JX1_number_25 JX1_number_26
    rw [P_says0, bnd_s, cIf_t rfl]
    exact ⟨_, _, _, _, _, rfl, rfl, rfl, fun k e => by cases e; rfl, After.keep (Sim_thrown hS 1) (by omega) (by omega)⟩
  · rw [h1, h2, bndX_r, bnd_s, cIf_f one_ne0]
    obtain ⟨hq, e1, e2, hR, hb⟩ := id hB
    obtain ⟨q1, q2, q3, q4, q5, q6, q7, q8, q9⟩ := Sim_ob hS hR
    have hsz := q5.2
    have hl8 := hb.2.2.1
    rw [nmd_v]
    show ∃ r σ' C N μ', bnp (fX0_isReference F (hiOf p3)) _ = some (r, σ', C, N) ∧ _
    by_cases hr : isR (hiOf p3)
    · rw [P_isReference_t hr, bnp_s, cIf_f one_ne0, cIf_t ((lg_cmp_eq _ _).mpr ((isR_hi p3).mp hr))]
      unfold JX1_number_25 JX1_number_26
      rw [P_says0, bnd_s, cIf_t rfl]
      exact ⟨_, _, _, _, _, rfl, rfl, rfl, fun k e => by cases e; rfl, After.keep (Sim_thrown hS 1) (by omega) (by omega)⟩
    · rw [P_isReference_f hr, bnp_s, cIf_t rfl, cIf_f (fun e => hr ((isR_hi p3).mpr ((lg_cmp_eq _ _).mp e)))]
      unfold JX1_number_26
      rw [P_says1, bnd_s, cIf_f one_ne0, ck_t (vp_in_nI (by omega) (by omega)), nI_clamp (by omega), nmd_v, nI_1]
      show ∃ r σ' C N μ', ck (vp_in (nI (a + 3 + lk (o_fw σ) a + 2 * i + 1)) (o_lw σ)) _ = some (r, σ', C, N) ∧ _
      rw [ck_t (vp_in_nI (by omega) (by omega)), nI_clamp (by omega), nmd_v]
      simp only [nmd_v, ck_t (in24 hq), cl24 hq, mgs_root_thrown, mgs_root_number]
      rw [e2, e8i, ck_t (vp_in_nI (by omega) (by omega)), ck_t (vp_in_nI (by omega) (by omega)), nI_clamp (by omega)]
      exact ⟨_, _, _, _, _, rfl, rfl, rfl, (fun k e => by cases e), After.put (Sim_value (rf := 0) (nb := p3) (Sim_thrown hS 0) (hB.thrown 0) hi (Or.inr ⟨hr, rfl, (cat_split p3).symm⟩) (SameM.rf _)) rfl rfl rfl (by omega) (by omega)⟩
theorem isR_ref : isR (-393216) := by
  rw [isR_iff]
  decide
theorem C_refer (p1 p2 p3 : Int32) (h : Sm σ μ M) : ∃ r σ' C N μ', fX0_refer F σ p1 p2 p3 = some (r, σ', C, N) ∧ fX1_refer F μ p1 p2 p3 = some μ' ∧ m_thrown μ' = xC r ∧ (∀ k, r = .inl k → k = 1) ∧ After σ M σ' μ' C N := by
  obtain ⟨os, U, nl, R, hS⟩ := h
  have fail : ∀ (v1 v2 v3 v4 : Int32), JX1_refer_42 F μ v1 v2 v3 v4 = some (m_s_thrown μ 1) := fun v1 v2 v3 v4 => by
    unfold JX1_refer_42 JX1_refer_43
    rw [P_says0, bnd_s, cIf_t rfl]
  unfold fX0_refer fX1_refer
  rcases P_val (F := F) hS p1 p2 with ⟨h1, h2⟩ | ⟨q, a, o, i, rfl, rfl, hB, hi, h1, h2⟩
  · rw [h1, h2, bndX_l, bnd_s, cIf_t rfl]
    unfold JX1_refer_20 JX1_refer_21
    rw [cIf_t rfl, fail]
    exact ⟨_, _, _, _, _, rfl, rfl, rfl, fun k e => by cases e; rfl, After.keep (Sim_thrown hS 1) (by omega) (by omega)⟩
  · rw [h1, h2, bndX_r, bnd_s, cIf_f one_ne0]
    obtain ⟨hq, e1, e2, hR, hb⟩ := id hB
    obtain ⟨q1, q2, q3, q4, q5, q6, q7, q8, q9⟩ := Sim_ob hS hR
    have hsz := q5.2
    have hl8 := hb.2.2.1
    rcases root_cs p3 with ⟨t, ht, rfl⟩ | hn
    · rw [P_needRoot_t ht, P_isRoot_t ht, bndN_r, bnp_s, cIf_f one_ne0]
      unfold JX1_refer_21
      rw [cIf_f one_ne0]
      simp only [nmd_v, ck_t (in24 ht), cl24 ht]
      rcases Sim_at hS ht with ⟨f1, f2⟩ | ⟨b, p, f1, f2, hR'⟩
      · rw [f1, cIf_t rfl, f2, cIf_t (by decide), fail]
        exact ⟨_, _, _, _, _, rfl, rfl, rfl, fun k e => by cases e; rfl, After.keep (Sim_thrown hS 1) (by omega) (by omega)⟩
      · obtain ⟨u1, u2, u3, u4, u5, u6, u7, u8, -⟩ := Sim_ob hS hR'
        have := okO_3 u5
        rw [f1, cIf_f (nI_nm1 (by omega)), f2, cIf_f (nI_nle (by omega) (by omega))]
        unfold JX1_refer_43
        rw [P_says1, bnd_s, cIf_f one_ne0, ck_t (vp_in_nI (by omega) (by omega)), nI_clamp (by omega), nI_1]
        simp only [nmd_v, ck_t (in24 hq), cl24 hq, ck_t (in24 ht), cl24 ht, mgs_root_thrown]
        show ∃ r σ' C N μ', ck (vp_in (nI (a + 3 + lk (o_fw σ) a + 2 * i + 1)) (o_lw σ)) _ = some (r, σ', C, N) ∧ _
        rw [ck_t (vp_in_nI (by omega) (by omega)), nI_clamp (by omega), e2, e8i, ck_t (vp_in_nI (by omega) (by omega)), nI_clamp (by omega)]
        refine ⟨_, _, _, _, _, rfl, rfl, rfl, (fun k e => by cases e), After.put (Sim_value (hi := -393216) (lo := o_fr σ t) (rf := m_root μ t) (nb := m_number μ (8 * o + i)) (Sim_thrown hS 0) (hB.thrown 0) hi (Or.inl ⟨isR_ref, b, p, f1, f2, hR'⟩) ?_) rfl rfl rfl (by omega) (by omega)⟩
        have en : vp_updL (m_number (m_s_thrown μ 0)) (8 * o + i) (m_number μ (8 * o + i)) = m_number μ := by
          funext j
          unfold vp_updL
          by_cases e : j = 8 * o + i
          · rw [if_pos e, e]
          · rw [if_neg e]; rfl
        rw [en]
        exact SameM.rf _
    · rw [P_needRoot_f hn, P_isRoot_f hn, bndN_l, bnp_s, cIf_t rfl]
      unfold JX1_refer_20 JX1_refer_21
      rw [cIf_t rfl, fail]
      exact ⟨_, _, _, _, _, rfl, rfl, rfl, fun k e => by cases e; rfl, After.keep (Sim_thrown hS 1) (by omega) (by omega)⟩
theorem C_bits (p1 p2 : Int32) (h : Sm σ μ M) : ∃ r σ' C N b μ', fX0_bits F σ p1 p2 = some (r, σ', C, N) ∧ fX1_bits F μ p1 p2 = some (b, μ') ∧ m_thrown μ' = xC r ∧ (∀ k, r = .inl k → k = 1) ∧ (∀ a, r = .inr a → a = b) ∧ After σ M σ' μ' C N := by
  obtain ⟨os, U, nl, R, hS⟩ := h
  unfold fX0_bits fX1_bits
  rcases P_val (F := F) hS p1 p2 with ⟨h1, h2⟩ | ⟨q, a, o, i, rfl, rfl, hB, hi, h1, h2⟩
  · rw [h1, h2, bndX_l, bnd_s, cIf_t rfl]
    unfold JX1_bits_35 JX1_bits_36
    rw [P_says0, bnd_s, cIf_t rfl]
    exact ⟨_, _, _, _, _, _, rfl, rfl, rfl, (fun k e => by cases e; rfl), (fun a e => by cases e), After.keep (Sim_thrown hS 1) (by omega) (by omega)⟩
  · rw [h1, h2, bndX_r, bnd_s, cIf_f one_ne0]
    obtain ⟨hq, e1, e2, hR, hb⟩ := id hB
    obtain ⟨q1, q2, q3, q4, q5, q6, q7, q8, q9⟩ := Sim_ob hS hR
    have hsz := q5.2
    have hl8 := hb.2.2.1
    simp only [nmd_v, ck_t (in24 hq), cl24 hq]
    rw [ck_t (vp_in_nI (by omega) (by omega)), nI_clamp (by omega), e2, e8i, ck_t (vp_in_nI (by omega) (by omega)), nI_clamp (by omega), nI_1, nI_clamp (by omega)]
    rcases hb.2.2.2.2.2.2.2.2.1 i hi with ⟨x1, b, p, x2, x3, x4⟩ | ⟨x1, x2, x3⟩
    · have hp := hS.2.2.1 b p x4
      rw [P_isReference_t x1, bnp_s, cIf_f one_ne0, x3, cIf_f (nI_ne0 (by omega) (by omega))]
      unfold JX1_bits_35 JX1_bits_36
      rw [P_says0, bnd_s, cIf_t rfl, ck_t (vp_in_nI (by omega) (by omega))]
      exact ⟨_, _, _, _, _, _, rfl, rfl, rfl, (fun k e => by cases e; rfl), (fun a e => by cases e), After.keep (Sim_thrown hS 1) (by omega) (by omega)⟩
    · rw [P_isReference_f x1, bnp_s, cIf_t rfl, x2, cIf_t rfl]
      unfold JX1_bits_36
      rw [P_says1, bnd_s, cIf_f one_ne0, ck_t (vp_in_nI (by omega) (by omega)), ck_t (vp_in_nI (by omega) (by omega))]
      simp only [nmd_v, ck_t (in24 hq), cl24 hq, mgs_root_thrown]
      rw [e2, e8i, ck_t (vp_in_nI (by omega) (by omega)), nI_clamp (by omega)]
      exact ⟨_, _, _, _, _, _, rfl, rfl, rfl, (fun k e => by cases e), (fun a e => by cases e; exact x3.symm), After.keep (Sim_thrown hS 0) (by omega) (by omega)⟩
theorem C_follow (p1 p2 p3 : Int32) (h : Sm σ μ M) : ∃ r σ' C N b μ', fX0_follow F σ p1 p2 p3 = some (r, σ', C, N) ∧ fX1_follow F μ p1 p2 p3 = some (b, μ') ∧ m_thrown μ' = xC r ∧ (∀ k, r = .inl k → k = 1) ∧ (∀ a, r = .inr a → a = b) ∧ After σ M σ' μ' C N := by
  obtain ⟨os, U, nl, R, hS⟩ := h
  unfold fX0_follow fX1_follow
  rcases P_val (F := F) hS p1 p2 with ⟨h1, h2⟩ | ⟨q, a, o, i, rfl, rfl, hB, hi, h1, h2⟩
  · rw [h1, h2, bndX_l, bnd_s, cIf_t rfl]
    unfold JX1_follow_21 JX1_follow_22
    rw [P_says0, bnd_s, cIf_t rfl]
    exact ⟨_, _, _, _, _, _, rfl, rfl, rfl, (fun k e => by cases e; rfl), (fun a e => by cases e), After.keep (Sim_thrown hS 1) (by omega) (by omega)⟩
  · rw [h1, h2, bndX_r, bnd_s, cIf_f one_ne0]
    obtain ⟨hq, e1, e2, hR, hb⟩ := id hB
    obtain ⟨q1, q2, q3, q4, q5, q6, q7, q8, q9⟩ := Sim_ob hS hR
    have hsz := q5.2
    have hl8 := hb.2.2.1
    rcases root_cs p3 with ⟨t, ht, rfl⟩ | hn
    · rw [P_needRoot_t ht, P_isRoot_t ht, bndN_r, bnp_s, cIf_f one_ne0]
      unfold JX1_follow_22
      rw [P_says1, bnd_s, cIf_f one_ne0]
      simp only [nmd_v, ck_t (in24 hq), cl24 hq, ck_t (in24 ht), cl24 ht, mgs_root_thrown]
      rw [ck_t (vp_in_nI (by omega) (by omega)), nI_clamp (by omega), e2, e8i, ck_t (vp_in_nI (by omega) (by omega)), nI_clamp (by omega), mgs_refers_thrown]
      rcases hb.2.2.2.2.2.2.2.2.1 i hi with ⟨x1, b, p, x2, x3, x4⟩ | ⟨x1, x2, x3⟩
      · have hp := hS.2.2.1 b p x4
        rw [P_isReference_t x1, bnp_s, cIf_f one_ne0, nI_1, ck_t (vp_in_nI (by omega) (by omega)), nI_clamp (by omega), x2, x3, cIf_f (nI_nle (by omega) (by omega)), cIf_f (nI_nle (by omega) (by omega))]
        exact ⟨_, _, _, _, _, _, rfl, rfl, rfl, (fun k e => by cases e), (fun a e => by cases e; rfl), After.put (Sim_root (q := t) (Sim_thrown hS 0) (Or.inr ⟨b, p, rfl, rfl, x4⟩)) rfl rfl rfl (by omega) (by omega)⟩
      · rw [P_isReference_f x1, bnp_s, cIf_t rfl, x2, cIf_t (by decide), cIf_t (by decide)]
        exact ⟨_, _, _, _, _, _, rfl, rfl, rfl, (fun k e => by cases e), (fun a e => by cases e; rfl), After.keep (Sim_thrown hS 0) (by omega) (by omega)⟩
    · rw [P_needRoot_f hn, P_isRoot_f hn, bndN_l, bnp_s, cIf_t rfl]
      unfold JX1_follow_21 JX1_follow_22
      rw [P_says0, bnd_s, cIf_t rfl]
      exact ⟨_, _, _, _, _, _, rfl, rfl, rfl, (fun k e => by cases e; rfl), (fun a e => by cases e), After.keep (Sim_thrown hS 1) (by omega) (by omega)⟩
theorem C_set (p1 p2 p3 : Int32) (h : Sm σ μ M) : ∃ r σ' C N μ', fX0_set F σ p1 p2 p3 = some (r, σ', C, N) ∧ fX1_set F μ p1 p2 p3 = some μ' ∧ m_thrown μ' = xC r ∧ (∀ k, r = .inl k → k = 1) ∧ After σ M σ' μ' C N := by
  obtain ⟨os, U, nl, R, hS⟩ := h
  unfold fX0_set fX1_set
  rcases P_pln (F := F) hS p1 p2 with ⟨h1, h2⟩ | ⟨q, a, o, i, rfl, rfl, hB, hi, h1, h2⟩
  · rw [h1, h2, bndX_l, bnd_s, P_says0, bnd_s, cIf_t rfl]
    exact ⟨_, _, _, _, _, rfl, rfl, rfl, fun k e => by cases e; rfl, After.keep (Sim_thrown hS 1) (by omega) (by omega)⟩
  · obtain ⟨hq, e1, e2, hR, hb⟩ := id hB
    obtain ⟨q1, q2, q3, q4, q5, q6, q7, q8, q9⟩ := Sim_ob hS hR
    have hsz := q5.2
    have hl8 := hb.2.2.2.1
    rw [h1, h2, bndX_r, bnd_s, P_says1, bnd_s, cIf_f one_ne0]
    simp only [nmd_v, ck_t (in24 hq), cl24 hq, mgs_root_thrown]
    rw [ck_t (vp_in_nI (by omega) (by omega)), nI_clamp (by omega), e2, e16i, ck_t (vp_in_nI (by omega) (by omega)), nI_clamp (by omega)]
    exact ⟨_, _, _, _, _, rfl, rfl, rfl, (fun k e => by cases e), After.put (Sim_word (Sim_thrown hS 0) (hB.thrown 0) hi) rfl rfl rfl (by omega) (by omega)⟩
theorem C_get (p1 p2 : Int32) (h : Sm σ μ M) : ∃ r σ' C N b μ', fX0_get F σ p1 p2 = some (r, σ', C, N) ∧ fX1_get F μ p1 p2 = some (b, μ') ∧ m_thrown μ' = xC r ∧ (∀ k, r = .inl k → k = 1) ∧ (∀ a, r = .inr a → a = b) ∧ After σ M σ' μ' C N := by
  obtain ⟨os, U, nl, R, hS⟩ := h
  unfold fX0_get fX1_get
  rcases P_pln (F := F) hS p1 p2 with ⟨h1, h2⟩ | ⟨q, a, o, i, rfl, rfl, hB, hi, h1, h2⟩
  · rw [h1, h2, bndX_l, bnd_s, P_says0, bnd_s, cIf_t rfl]
    exact ⟨_, _, _, _, _, _, rfl, rfl, rfl, (fun k e => by cases e; rfl), (fun a e => by cases e), After.keep (Sim_thrown hS 1) (by omega) (by omega)⟩
  · obtain ⟨hq, e1, e2, hR, hb⟩ := id hB
    obtain ⟨q1, q2, q3, q4, q5, q6, q7, q8, q9⟩ := Sim_ob hS hR
    have hsz := q5.2
    have hl8 := hb.2.2.2.1
    rw [h1, h2, bndX_r, bnd_s, P_says1, bnd_s, cIf_f one_ne0]
    simp only [nmd_v, ck_t (in24 hq), cl24 hq, mgs_root_thrown]
    rw [ck_t (vp_in_nI (by omega) (by omega)), nI_clamp (by omega), e2, e16i, ck_t (vp_in_nI (by omega) (by omega)), nI_clamp (by omega)]
    exact ⟨_, _, _, _, _, _, rfl, rfl, rfl, (fun k e => by cases e), (fun x e => by cases e; exact hb.2.2.2.2.2.2.2.2.2.1 i hi), After.keep (Sim_thrown hS 0) (by omega) (by omega)⟩
end BC
