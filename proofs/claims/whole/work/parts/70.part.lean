/-! part -/
theorem ix2 {p3 p4 : Int32} {n : Nat} (hn : n ≤ 4000) (h1 : ¬ p3 < 0) (h2 : ¬ p4 < p3) (h3 : p4 ≤ nI n) : ∃ i j, p3 = nI i ∧ p4 = nI j ∧ i ≤ j ∧ j ≤ n := by
  rw [Int32.lt_iff_toInt_lt] at h1 h2
  rw [Int32.le_iff_toInt_le, nI_toInt (by omega)] at h3
  have e0 : (0 : Int32).toInt = 0 := by decide
  have key : ∀ p : Int32, 0 ≤ p.toInt → p.toInt ≤ n → ∃ j, j ≤ n ∧ p = nI j := fun p q1 q2 => by
    rcases upTo_cs p n (by omega) with h | h | h
    · exact h
    · rw [Int32.lt_iff_toInt_lt] at h; omega
    · rw [Int32.le_iff_toInt_le, nI_toInt (by omega)] at h; omega
  obtain ⟨j, j1, j2⟩ := key p4 (by omega) (by omega)
  obtain ⟨i, i1, i2⟩ := key p3 (by omega) (by omega)
  refine ⟨i, j, i2, j2, ?_, j1⟩
  rw [i2, j2, nI_toInt (by omega), nI_toInt (by omega)] at h2
  omega
/-- what no object holds is put -/
theorem Sim_ab0 {σ : oS} {μ : mS} {os nl : List Nat} {U M : Nat} {R : Nat → Nat → Prop} (hS : Sim σ μ os U nl M R) (x y : Int32) : Sim σ (m_s_b (m_s_a μ (upd (m_a μ) 0 x)) (upd (m_b (m_s_a μ (upd (m_a μ) 0 x))) 0 y)) os U nl M R :=
  Sim_mu hS (fun o o1 o2 => ⟨⟨rfl, rfl, rfl, rfl, rfl, rfl, pk_un (by omega), pk_un (by omega), rfl, fun i _ => ⟨rfl, rfl, rfl⟩, fun i _ => rfl⟩, rfl⟩) hS.2.1.2.2.1 hS.2.1.2.2.2.1 hS.2.1.tl rfl rfl
theorem zero_le0 : (0 : Int32) ≤ 0 := by decide
theorem in0 : vp_in 0 4096 := vp_in_nI (n := 0) (by omega) (by omega)
/-- what partOf does when the new object is refused, or made -/
theorem P_partOf_f {F : Nat} {μ μ1 μ2 : mS} {k i j o : Nat} (hij : i ≤ j) (h1 : fX1_goOver F μ (nI o) = some (1, μ1)) (h2 : fX1_make F μ1 (nI k) (nI (j - i)) 1 = some (0, μ2)) : fX1_partOf F μ (nI k) (nI o) (nI i) (nI j) = some (0, m_s_b (m_s_a μ2 (upd (m_a μ2) 0 (nI o))) (upd (m_b (m_s_a μ2 (upd (m_a μ2) 0 (nI o)))) 0 (nI i))) := by
  unfold fX1_partOf
  rw [h1, bnd_s, cIf_f one_ne0, pk_sub hij, h2, bnd_s, ck_t in0, nmd_v, ck_t in0, nmd_v]
  rfl
theorem P_partOf_t {F : Nat} {μ μ1 μ2 : mS} {k i j o M : Nat} (hM : M ≤ 4000) (hij : i ≤ j) (h1 : fX1_goOver F μ (nI o) = some (1, μ1)) (h2 : fX1_make F μ1 (nI k) (nI (j - i)) 1 = some (nI M, μ2)) : fX1_partOf F μ (nI k) (nI o) (nI i) (nI j) = some (nI M, m_s_b (m_s_a μ2 (upd (m_a μ2) M (nI o))) (upd (m_b (m_s_a μ2 (upd (m_a μ2) M (nI o)))) M (nI i))) := by
  unfold fX1_partOf
  rw [h1, bnd_s, cIf_f one_ne0, pk_sub hij, h2, bnd_s, ck_t (vp_in_nI (by omega) (by omega)), nI_clamp (n := M) (by omega), nmd_v, ck_t (vp_in_nI (by omega) (by omega)), nmd_v]
theorem C_part {F : Nat} {σ : oS} {μ : mS} {M : Nat} (hF : 1048600 < F) (hM : M + 2 ≤ 4000) (p1 p2 p3 p4 : Int32) (h : Sm σ μ M) : ∃ r σ' C N μ', fX0_part F σ p1 p2 p3 p4 = some (r, σ', C, N) ∧ fX1_part F μ p1 p2 p3 p4 = some μ' ∧ m_thrown μ' = xC r ∧ After σ M σ' μ' C N := by
  obtain ⟨os, U, nl, R, hS⟩ := h
  have fail58 : ∀ v1 v2 v3 v4 v5, JX1_part_58 F μ v1 v2 v3 v4 v5 = some (m_s_thrown μ 1) := fun v1 v2 v3 v4 v5 => by
    unfold JX1_part_58 JX1_part_59
    rw [P_says0, bnd_s, cIf_t rfl]
  have fail19 : ∀ v1 v2 v3 v4, JX1_part_19 F μ v1 v2 v3 v4 = some (m_s_thrown μ 1) := fun v1 v2 v3 v4 => by
    unfold JX1_part_19 JX1_part_20
    rw [cIf_t rfl, fail58]
  unfold fX0_part fX1_part
  rcases root_cs p1 with ⟨q, hq, rfl⟩ | hn
  · rw [P_needRoot_t hq, P_isRoot_t hq, bndN_r, bnp_s, cIf_f one_ne0]
    rcases P_txt (F := F) hS p2 with ⟨h1, h2⟩ | ⟨q1, a1, o, rfl, hT, h1, h2⟩
    · rw [h1, h2, bndX_l, bnd_s, cIf_t rfl, fail19]
      exact ⟨_, _, _, _, _, rfl, rfl, rfl, After.keep (Sim_thrown hS 1) (by omega) (by omega)⟩
    obtain ⟨w1, w2, w3, w4, w5⟩ := id hT
    obtain ⟨b1, b2, b3, b4, b5, b6, b7, b8, b9⟩ := Sim_ob hS w4
    obtain ⟨l1, l2, l3, l4⟩ := ObT_len w5
    have hin : vp_in (nI o) 4096 := vp_in_nI (by omega) (by omega)
    have hcl : (nI o).toNatClampNeg = o := nI_clamp (by omega)
    rw [h1, h2, bndX_r, bnd_s, cIf_f one_ne0]
    unfold JX1_part_20
    rw [cIf_f one_ne0, ck_t (in24 w1), cl24 w1, nmd_v, w3, ck_t hin, hcl, nmd_v, l1, P_lengthIn hS.rd hT, bnd_s]
    by_cases c1 : p3 < 0
    · rw [cIf_t c1, cIf_t c1, fail58]
      exact ⟨_, _, _, _, _, rfl, rfl, rfl, After.keep (Sim_thrown hS 1) (by omega) (by omega)⟩
    rw [cIf_f c1, cIf_f c1]
    by_cases c2 : p4 < p3
    · rw [cIf_t c2, cIf_t c2, fail58]
      exact ⟨_, _, _, _, _, rfl, rfl, rfl, After.keep (Sim_thrown hS 1) (by omega) (by omega)⟩
    rw [cIf_f c2, cIf_f c2]
    by_cases c3 : p4 ≤ nI (mlen μ o)
    · rw [cIf_t c3, cIf_f (Int32.not_lt.mpr c3)]
      obtain ⟨i, j, rfl, rfl, hij, hj⟩ := ix2 l2 c1 c2 c3
      unfold JX1_part_59
      rw [P_says1, bnd_s, cIf_f one_ne0, ck_t (in24 w1), cl24 w1, nmd_v, mgs_root_thrown, w3]
      have hS0 := Sim_thrown hS 0
      have hk1 := hT.k1 b9.1
      obtain ⟨a0, hT0⟩ := hS0.rd.tx (q := q1) w1 w3 b2 b3 hk1
      obtain ⟨σ', μ', os', U', nl', M', R', hS', hov, hg⟩ := P_goOver (F := F) hF (by omega) hS0 hT0
      obtain ⟨x1, x2, x3, x4, x5, x6, x7⟩ := id hov
      rcases hg with ⟨C, N, g1, g2, g3, g4, g5⟩ | ⟨g1, g2, g3, -⟩
      · have hl : mlen μ' o = mlen μ o := hov.len b3
        have hk1' : ¬ m_kind μ' o = 1 := fun e => by
          rcases x7 o b3 with e1 | ⟨-, e1⟩
          · exact hk1 (e1.symm.trans e)
          · exact absurd (e1.symm.trans e) (by decide)
        have w3' : m_root μ' q1 = nI o := by rw [x4]; exact w3
        obtain ⟨L, hL, hmL, hLb⟩ := Sim_L hS'
        obtain ⟨hMI1, hMI2, hob, hk0, -⟩ := id hS'.2.1
        obtain ⟨σ1, os1, U1, nl1, R1, hS1, hl1, hp1, hmk⟩ := P_makeFlat hF hS' (k := 2) (n := j - i) (by omega) (by omega) rfl hL hLb
        obtain ⟨m1, m2⟩ := P_mmake (k := 2) (n := j - i) (h := 1) (s := 4 + (j - i + 1) / 2) hF hS' (AgB.rf _ M') hob rfl hmL hLb (by omega) (fun μ' y1 y2 _ _ _ => words_flat (by omega) (by omega) (Or.inl rfl) y1 y2)
        rcases hmk with ⟨hf, e1⟩ | ⟨hf, σ2, C2, N2, e1, hX, e3, e4, e5, e6⟩
        · obtain ⟨μ2, d1, hFm⟩ := m2 hf
          have d1' : fX1_partOf F (m_s_thrown μ 0) 2 (nI o) (nI i) (nI j) = _ := P_partOf_f (k := 2) hij g2 d1
          have e1' : fX0_makeFlat F σ' 2 (nI j - nI i) = some (.inl 2, σ1, 1, 6) := by rw [pk_sub hij]; exact e1
          rw [d1', bnd_s, P_full0, bnd_s, cIf_t zero_le0]
          refine ⟨.inl 2, σ1, C + 1, N + 6, _, ?_, rfl, rfl, ⟨M', ⟨os1, U1, nl1, R1, Sim_thrown (Sim_ab0 (Sim_MkF hS1 hFm) _ _) 2⟩, x1, by omega⟩, (hl1.trans hL.symm).trans x3, by omega, by omega⟩
          rw [g1]
          refine bndX_k ?_
          rw [e1', bndX_l]
        · obtain ⟨μ2, d1, f1, f2, f3, f4, f5, f6, f7, f8, f9, f10, f11, f12, f13, f14, f15, f16, f17, f18⟩ := m1 hf
          have d1' : fX1_partOf F (m_s_thrown μ 0) 2 (nI o) (nI i) (nI j) = _ := P_partOf_t (k := 2) hMI2 hij g2 d1
          have e1' : fX0_makeFlat F σ' 2 (nI j - nI i) = some (.inr (nI U1), σ2, C2, N2) := by rw [pk_sub hij]; exact e1
          have hRd := hX.rd hS1
          obtain ⟨a', hT'⟩ := hRd.tx (q := q1) w1 w3' b2 (by omega) hk1'
          have hkd : kd (o_fw σ2) a' ≠ 3 := fun e => g5 (by rw [(hRd.1 a' o hT'.2.2.2.1).2.2.2.2.1, e])
          obtain ⟨b, fl1, fl2⟩ := P_flatOf (F := F) hRd hT'.2.2.2.1 hT'.2.2.2.2 hkd
          obtain ⟨s3, s4, s5, s6, s7, s8, s9⟩ := id fl2
          have hls := hX.2.2.2.2.1
          have hlb := hRd.2.2.1
          obtain ⟨c, k1, k2, k3⟩ := P_copyUnits (F := F) (σ := σ2) (a := b) (b := U1) (W := (j - i + 1) / 2) (frm := i) (to := j) (pos := 0) (by omega) hij (by omega) (by omega) (by omega) (by omega) hlb (fun t _ ht => un_fresh e4 (by omega))
          have k1' : fX0_copyUnits F σ2 (nI b) (nI i) (nI j) (nI U1) 0 = some (o_s_fw σ2 c) := k1
          have hX3 : Ext σ1 (o_s_fw σ2 c) U1 2 0 0 (4 + (j - i + 1) / 2) := hX.fill (fun x hx => k2 x (by omega))
          generalize hμ3 : m_s_b (m_s_a μ2 (upd (m_a μ2) M' (nI o))) (upd (m_b (m_s_a μ2 (upd (m_a μ2) M' (nI o)))) M' (nI i)) = μ3 at d1'
          rw [d1', bnd_s, P_full1 (by omega) (by omega), bnd_s, cIf_f (show ¬ nI M' ≤ 0 from nI_ge (a := 0) (b := M') (by omega) (by omega)), ck_t (in24 hq), cl24 hq, nmd_v]
          have hTx : TxM μ' (m_s_thrown μ3 0) M' 2 (j - i) 1 := by
            subst hμ3
            exact ⟨f2, f3, f4, f5, f6, f7, f8, f9, f10, f11, f12, f13, f14, f18, fun o ho2 => ⟨(pk_un (by omega)).trans (congrFun f15 o), (pk_un (by omega)).trans (congrFun f16 o), congrFun f17 o⟩⟩
          have ha3 : m_a (m_s_thrown μ3 0) M' = nI o := by subst hμ3; exact pk_us
          have hb3 : m_b (m_s_thrown μ3 0) M' = nI i := by subst hμ3; exact pk_us
          have hmo : m_madeOf (m_s_thrown μ3 0) M' = 1 := by subst hμ3; exact (congrFun f14 M').trans pk_us
          have hMI' := hTx.mi hS1.2.1 (by omega) (by omega) (Or.inr (Or.inl ⟨rfl, o, i, ha3, hb3, b2, by omega, by omega⟩))
          have hag := hTx.agb
          have huM : ∀ k, uo (m_s_thrown μ3 0) M' k = uo μ' o (k + i) := fun k => by
            rw [uo_1 hMI'.2.1 hMI'.mt hMI1 (by omega) hmo ha3 hb3 b2 (by omega) (by omega)]
            exact hag.uoE hS1.2.1.2.1 hS1.2.1.mt b2 (by omega) _
          have hS3 := Sim_txt hS1 hX3 (by omega) rfl ((k2 _ (by omega)).trans e3) (fun t ht => by
            refine (k3 t).trans ?_
            rw [if_pos (by omega), huM, Nat.sub_zero, Nat.add_comm i t]
            exact s8 _ (by omega)) (fun ho2 => by
            refine (k3 _).trans ?_
            rw [if_neg (by omega)]
            exact un_fresh e4 (by omega)) hTx hMI'
          have hS4 := Sim_root (q := q) hS3 (x := nI U1) (y := nI M') (Or.inr ⟨U1, M', rfl, rfl, Or.inr ⟨rfl, rfl⟩⟩)
          have hpe : pot (o_s_fr (o_s_fw σ2 c) (upd (o_fr (o_s_fw σ2 c)) q (nI U1))) = pot σ2 := rfl
          refine ⟨.inr (), _, C + (C2 + 0), N + (N2 + 0), _, ?_, rfl, rfl, ⟨M' + 1, ⟨_, _, _, _, hS4⟩, by omega, by omega⟩, ((hX3.1.1.trans hl1).trans hL.symm).trans x3, by omega, by omega⟩
          rw [g1]
          refine bndX_k ?_
          rw [e1']
          refine bndX_k ?_
          rw [ck_t (in24 w1), nmd_v, hT'.2.1, fl1, bnd_s, k1', bnp_s, ck_t (in24 hq), nmd_v]
      · unfold fX1_partOf
        rw [g1, g2, bndX_l, bnd_s, cIf_t rfl, bnd_s, P_full0, bnd_s, cIf_t zero_le0]
        exact ⟨_, _, _, _, _, rfl, rfl, rfl, ⟨M', ⟨os', U', nl', R', Sim_thrown hS' 2⟩, x1, by omega⟩, x3, by omega, by omega⟩
    · rw [cIf_f c3, cIf_t (Int32.not_le.mp c3), fail58]
      exact ⟨_, _, _, _, _, rfl, rfl, rfl, After.keep (Sim_thrown hS 1) (by omega) (by omega)⟩
  · rw [P_needRoot_f hn, P_isRoot_f hn, bndN_l, bnp_s, cIf_t rfl, fail19]
    exact ⟨_, _, _, _, _, rfl, rfl, rfl, After.keep (Sim_thrown hS 1) (by omega) (by omega)⟩
