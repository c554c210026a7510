/-! name -/
theorem P_goOver1 {F : Nat} {μ : mS} {o : Nat} (ho : o < 4096) (hk : m_kind μ o ≠ nI 3) : fX1_goOver F μ (nI o) = some (1, μ) := by
  unfold fX1_goOver
  rw [ck_t (vp_in_nI ho (by omega)), nI_clamp (n := o) (by omega), nmd_v, cIf_f (fun e => hk (e.trans nI3l))]
theorem Sim.fx {σ : oS} {μ : mS} {os nl : List Nat} {U M : Nat} {R : Nat → Nat → Prop} (hS : Sim σ μ os U nl M R) : ∀ x ∈ nl, ∃ n, Fx (o_fw σ) U x n := fun x hx => by
  obtain ⟨⟨hC, hU, hlw, hP1, hP2⟩, hQ, hu, hN, hnk, hnd, hnm, hds, -⟩ := hS.1
  have hm := Ch_mem os hC ((hnk x).mp hx).1
  obtain ⟨n0, n1, n, n2, n3, n4, n5⟩ := hnm x hx
  exact ⟨n, hm.2.2, hm.2.1, n4, n3, n0, n2, n5⟩
theorem Fl.fx {f : Nat → Int32} {μ : mS} {U o b : Nat} (h : Fl f μ U o b) (hl : mlen μ o ≤ 4000) : Fx f U b (mlen μ o) := by
  obtain ⟨h1, h2, h3, h4, h5, h6, h7⟩ := h
  exact ⟨h1, h2, h3, h4, h5, hl, h7⟩
theorem P_find {F : Nat} {σ : oS} {μ : mS} {os nl : List Nat} {U M b m : Nat} {R : Nat → Nat → Prop} (hF : 1048600 < F) (hS : Sim σ μ os U nl M R) (hb : Fx (o_fw σ) U b m) : (∃ x ∈ nl, sameU (o_fw σ) x b ∧ fX0_findName F σ (nI b) = some (nI x, σ)) ∨ (fX0_findName F σ (nI b) = some (-1, σ) ∧ ∀ x ∈ nl, ¬ sameU (o_fw σ) x b) := by
  obtain ⟨⟨hC, hU, hlw, hP1, hP2⟩, hQ, hu, hN, hnk, hnd, hnm, hds, -⟩ := id hS.1
  have hl := hN.2.1
  have hl2 := hN.2.2.1
  rcases P_findL (F := F) (K := fun w10 σ11 => some ((-1), σ11)) (by omega) hU hlw hN hS.fx hb nl.length F 0 (by omega) (by omega) with h | ⟨h1, h2⟩
  · exact Or.inl h
  · refine Or.inr ⟨h1, fun x hx => ?_⟩
    obtain ⟨j, hj, e⟩ := List.getElem_of_mem hx
    exact h2 j x (Nat.zero_le _) (by rw [List.getElem?_eq_getElem hj, e])
/-- all but the row of names is as it was -/
def EqN (σ' σ : oS) : Prop := o_lim σ' = o_lim σ ∧ o_lw σ' = o_lw σ ∧ o_fw σ' = o_fw σ ∧ o_fr σ' = o_fr σ ∧ o_us σ' = o_us σ ∧ o_wt σ' = o_wt σ ∧ o_st σ' = o_st σ ∧ o_md σ' = o_md σ
/-- the row of names takes one more -/
theorem P_addName {σ3 : oS} {U1 n : Nat} (h1 : o_nc σ3 = nI n) (h2 : n ≤ o_ln σ3) (h3 : 1 ≤ o_ln σ3) (h4 : n ≤ 400000) (h5 : o_ln σ3 ≤ 1048576) :
    ∃ σ4 C N, cIf ((o_nc σ3) = (nI (o_ln σ3))) (addC 1 (2 * (o_nc σ3)).toNatClampNeg (ck (¬ (2 * (o_nc σ3)) < 0 ∧ o_ln σ3 < (2 * (o_nc σ3)).toNatClampNeg ∧ (2 * (o_nc σ3)).toNatClampNeg ≤ 1048576) (nmd (o_s_fn (o_s_ln σ3 (2 * (o_nc σ3)).toNatClampNeg) (grown (o_fn σ3) (o_ln σ3))) (fun σ14 => ck (vp_in (o_nc σ14) (o_ln σ14)) (nmd (o_s_fn σ14 (upd (o_fn σ14) (o_nc σ14).toNatClampNeg (nI U1))) (fun σ17 => nmd (o_s_nc σ17 ((o_nc σ17) + 1)) (fun σ18 => (some (.inr (nI U1), σ18, 0, 0) : xT Int32)))))))) (ck (vp_in (o_nc σ3) (o_ln σ3)) (nmd (o_s_fn σ3 (upd (o_fn σ3) (o_nc σ3).toNatClampNeg (nI U1))) (fun σ11 => nmd (o_s_nc σ11 ((o_nc σ11) + 1)) (fun σ12 => some (.inr (nI U1), σ12, 0, 0))))) = some (.inr (nI U1), σ4, C, N) ∧ C ≤ 1 ∧ N + pot σ3 ≤ pot σ4 ∧ EqN σ4 σ3 ∧ o_nc σ4 = nI (n + 1) ∧ n + 1 ≤ o_ln σ4 ∧ o_ln σ4 ≤ 1048576 ∧ (∀ j, j < n → o_fn σ4 j = o_fn σ3 j) ∧ o_fn σ4 n = nI U1 := by
  by_cases e : n = o_ln σ3
  · rw [h1, cIf_t (by rw [e]), nI_2m, nI_clamp (n := 2 * n) (by omega), ck_t ⟨nI_pos (by omega), by omega, by omega⟩, nmd_v]
    generalize hσ5 : o_s_fn (o_s_ln σ3 (2 * n)) (grown (o_fn σ3) (o_ln σ3)) = σ5
    have k1 : o_nc σ5 = nI n := by subst hσ5; exact h1
    have k2 : o_ln σ5 = 2 * n := by subst hσ5; rfl
    have k3 : o_fn σ5 = grown (o_fn σ3) (o_ln σ3) := by subst hσ5; rfl
    have k4 : EqN σ5 σ3 := by subst hσ5; exact ⟨rfl, rfl, rfl, rfl, rfl, rfl, rfl, rfl⟩
    rw [k1, k2, ck_t (vp_in_nI (by omega) (by omega)), nI_clamp (n := n) (by omega), nmd_v, nmd_v]
    refine ⟨_, 1 + 0, 2 * n + 0, rfl, by omega, ?_, k4, ?_, ?_, ?_, fun j hj => ?_, ?_⟩
    · show 2 * n + 0 + pot σ3 ≤ pot σ5
      obtain ⟨p1, p2, p3, -⟩ := k4
      unfold pot
      rw [p1, p2, k2]
      omega
    · show o_nc σ5 + 1 = _
      rw [k1, nI_1]
    · show n + 1 ≤ o_ln σ5
      omega
    · show o_ln σ5 ≤ _
      omega
    · show upd (o_fn σ5) n (nI U1) j = _
      rw [pk_un (by omega), k3]
      exact if_pos (by omega)
    · exact pk_us
  · rw [h1, cIf_f (fun q => e (nI_inj (by omega) (by omega) q)), ck_t (vp_in_nI (by omega) (by omega)), nI_clamp (n := n) (by omega), nmd_v, nmd_v]
    refine ⟨_, 0, 0, rfl, by omega, ?_, ⟨rfl, rfl, rfl, rfl, rfl, rfl, rfl, rfl⟩, ?_, ?_, ?_, fun j hj => ?_, ?_⟩
    · show 0 + pot σ3 ≤ pot σ3
      omega
    · show o_nc σ3 + 1 = _
      rw [h1, nI_1]
    · show n + 1 ≤ o_ln σ3
      omega
    · show o_ln σ3 ≤ _
      omega
    · exact pk_un (by omega)
    · exact pk_us
theorem ObR5 {f : Nat → Int32} {μ : mS} {R : Nat → Nat → Prop} {a p : Nat} (h : ObR f μ R a p) (hk : kd f a = 5) : lk f a = 0 ∧ f (a + 3) = nI (mlen μ p) ∧ mlen μ p ≤ 4000 ∧ ∀ k, k < mlen μ p → un f a k = uo μ p k := by
  obtain ⟨t1, t2, t3, n, t4, t5, t6, ht⟩ := ObR_T h (by omega)
  have e : mlen μ p = n := by unfold mlen; rw [t5, nI_clamp (by omega)]
  rw [e]
  rcases ht with ⟨-, x2, x3, x4, x5⟩ | ⟨x1, -⟩ | ⟨x1, -⟩
  · rw [x2] at t6
    exact ⟨x2, t6, t4, x4⟩
  · omega
  · omega
theorem sameU_tr {f : Nat → Int32} {x y b : Nat} (h : sameU f x b) (g : sameU f y b) : sameU f x y :=
  ⟨h.1.trans g.1.symm, fun k hk => (h.2 k hk).trans (g.2 k (by rw [g.1, ← h.1]; exact hk)).symm⟩
theorem C_name {F : Nat} {σ : oS} {μ : mS} {M : Nat} (hF : 1048600 < F) (hM : M + 2 ≤ 4000) (p1 p2 : Int32) (h : Sm σ μ M) : ∃ r σ' C N μ', fX0_name F σ p1 p2 = some (r, σ', C, N) ∧ fX1_name F μ p1 p2 = some μ' ∧ m_thrown μ' = xC r ∧ After σ M σ' μ' C N := by
  obtain ⟨os, U, nl, R, hS⟩ := h
  have fail : ∀ v1 v2, JX1_name_20 F μ v1 v2 = some (m_s_thrown μ 1) := fun v1 v2 => by
    unfold JX1_name_20 JX1_name_21
    rw [P_says0, bnd_s, cIf_t rfl]
  unfold fX0_name fX1_name
  rcases root_cs p1 with ⟨q, hq, rfl⟩ | hn
  · rw [P_needRoot_t hq, P_isRoot_t hq, bndN_r, bnp_s, cIf_f one_ne0]
    rcases P_txt (F := F) hS p2 with ⟨h1, h2⟩ | ⟨q1, a1, o, rfl, hT, h1, h2⟩
    · rw [h1, h2, bndX_l, bnd_s, cIf_t rfl, fail]
      exact ⟨_, _, _, _, _, rfl, rfl, rfl, After.keep (Sim_thrown hS 1) (by omega) (by omega)⟩
    obtain ⟨w1, w2, w3, w4, w5⟩ := id hT
    obtain ⟨b1, b2, b3, b4, b5, b6, b7, b8, b9⟩ := Sim_ob hS w4
    have hin : vp_in (nI o) 4096 := vp_in_nI (by omega) (by omega)
    have hcl : (nI o).toNatClampNeg = o := nI_clamp (by omega)
    obtain ⟨k1, k2⟩ := Sim_kd (F := F) hS w4
    have hS0 := Sim_thrown hS 0
    have hk1 := hT.k1 b9.1
    rw [h1, h2, bndX_r, bnd_s, cIf_f one_ne0]
    unfold JX1_name_21
    rw [P_says1, bnd_s, cIf_f one_ne0]
    simp only [cl24 w1, cl24 hq, ck_t (in24 w1), ck_t (in24 hq), nmd_v, mgs_root_thrown]
    rw [w2, w3, ck_t hin, hcl, k1, bnd_s, mgs_kind_thrown, k2]
    by_cases hk5 : kd (o_fw σ) a1 = 5
    · have e5 : nI (kd (o_fw σ) a1) = 5 := by rw [hk5]; rfl
      rw [cIf_t e5, cIf_t e5, w2]
      exact ⟨_, _, _, _, _, rfl, rfl, rfl, After.put (Sim_root (q := q) hS0 (Or.inr ⟨a1, o, rfl, rfl, w4⟩)) rfl rfl rfl (by omega) (by omega)⟩
    have e5 : ¬ nI (kd (o_fw σ) a1) = 5 := fun e => hk5 (nI_inj (by have := kd16 (o_fw σ) a1; omega) (by omega) (e.trans nI5l))
    rw [cIf_f e5, cIf_f e5]
    obtain ⟨a0, hT0⟩ := hS0.rd.tx (q := q1) w1 w3 b2 b3 hk1
    obtain ⟨σ', μ', os', U', nl', M', R', hS', hov, hg⟩ := P_goOver (F := F) hF (by omega) hS0 hT0
    obtain ⟨x1, x2, x3, x4, x5, x6, x7⟩ := id hov
    rcases hg with ⟨C, N, g1, g2, g3, g4, g5⟩ | ⟨g1, g2, g3, μ'', g4, g6⟩
    · rw [g2, bnd_s, cIf_f one_ne0]
      obtain ⟨μl, wl, lk1, hsm, -, -, -, hwl, hth, -⟩ := P_look (F := F) (by omega) hS'.sr
      have hSl := Sim_same hS' hsm
      unfold fX1_find
      rw [lk1, bnp_s]
      have hk3l : m_kind μl o ≠ nI 3 := by rw [hsm.kind]; exact g5
      have hk1l : ¬ m_kind μl o = 1 := fun e => by
        rw [hsm.kind] at e
        rcases x7 o b3 with e1 | ⟨-, e1⟩
        · exact hk1 (e1.symm.trans e)
        · exact absurd (e1.symm.trans e) (by decide)
      have w3l : m_root μl q1 = nI o := by rw [hsm.root, x4]; exact w3
      have htl : m_thrown μl = 0 := by rw [hsm.thrown, x5]; rfl
      obtain ⟨a', hTl⟩ := hSl.rd.tx (q := q1) w1 w3l b2 (by omega) hk1l
      obtain ⟨b, fl1, fl2⟩ := hSl.flat (F := F) hTl hk3l
      obtain ⟨ll1, ll2, -⟩ := hSl.mt o b2 (by omega)
      have hfx := fl2.fx ll2
      obtain ⟨s3, s4, s5, s6, s7, s8, s9⟩ := id fl2
      obtain ⟨⟨hC, hU, hlw, hP1, hP2⟩, hQt, hu, hN, hnk, hnd, hnm, hds, -, -⟩ := id hSl.1
      obtain ⟨hMI1, hMI2, hob, hk0, -⟩ := id hSl.2.1
      have factA : ∀ p, p < M' → Qn μl o p → ∃ a ∈ nl', R' a p ∧ Rch (o_fw σ') os' (o_fr σ') a ∧ sameU (o_fw σ') a b := fun p hp hQ => by
        obtain ⟨y1, y2, y3, y4⟩ := hQ
        rcases hth p hp with ⟨e, -⟩ | ⟨-, hmem⟩
        · exact absurd e y1
        obtain ⟨a, hRa, hra⟩ := (hwl p).mp hmem
        obtain ⟨c1, c2, c3, c4, c5, c6, c7, c8, c9⟩ := Sim_ob hSl hRa
        have hka : kd (o_fw σ') a = 5 := nI_inj (by have := kd16 (o_fw σ') a; omega) (by omega) (c9.1.symm.trans y2)
        obtain ⟨z1, z2, z3, z4⟩ := ObR5 c9 hka
        refine ⟨a, (hnk a).mpr ⟨c1, hka⟩, hRa, hra, by rw [z2, s6, y3], fun k hk => ?_⟩
        rw [z2, nI_clamp (by omega)] at hk
        rw [z4 k hk, y4 k (by omega), s8 k (by omega)]
      have factB : ∀ x ∈ nl', sameU (o_fw σ') x b → Rch (o_fw σ') os' (o_fr σ') x → ∃ p, 1 ≤ p ∧ p < M' ∧ Qn μl o p := fun x hx hsx hrx => by
        obtain ⟨p, hRp⟩ := Sr_all hS'.sr hrx
        obtain ⟨c1, c2, c3, c4, c5, c6, c7, c8, c9⟩ := Sim_ob hSl hRp
        have hka := ((hnk x).mp hx).2
        obtain ⟨z1, z2, z3, z4⟩ := ObR5 c9 hka
        have el : mlen μl p = mlen μl o := nI_inj (by omega) (by omega) (z2.symm.trans (hsx.1.trans s6))
        refine ⟨p, c2, c3, fun e => ?_, by rw [c9.1, hka]; rfl, el, fun k hk => ?_⟩
        · rcases hth p c3 with ⟨-, hnm⟩ | ⟨e1, -⟩
          · exact hnm ((hwl p).mpr ⟨x, hRp, hrx⟩)
          · exact absurd (e1.symm.trans e) one_ne0
        · rw [← z4 k (by omega), ← s8 k hk]
          exact hsx.2 k (by rw [z2, nI_clamp (by omega)]; omega)
      have hgo : fX1_goOver F μl (nI o) = some (1, μl) := P_goOver1 (by omega) hk3l
      obtain ⟨L, hL, hmL, hLb⟩ := Sim_L hSl
      obtain ⟨m1, m2⟩ := P_mmake (k := 5) (n := mlen μl o) (h := 1) (s := 4 + (mlen μl o + 1) / 2) hF hSl (AgB.rf _ M') hob rfl hmL hLb (by omega) (fun μ' y1 y2 _ _ _ => words_flat (by omega) (by omega) (Or.inr rfl) y1 y2)
      have hcls : ∀ {r : Int32 ⊕ Unit} {σr : oS} {Cr Nr : Nat} {v : Int32}, fX0_findName F σ' (nI b) = some (v, σ') → cIf (v = (-1)) (bndX (fX0_makeName F σ' (nI q1)) (fun a19 σ19 => some (.inr (), o_s_fr σ19 (upd (o_fr σ19) q a19), 0, 0))) (some (.inr (), o_s_fr σ' (upd (o_fr σ') q v), 0, 0)) = some (r, σr, Cr, Nr) → bndX (fX0_goOver F σ (nI q1)) (fun a9 σ9 => bnd (fX0_flatOf F σ9 (o_fr σ9 q1)) (fun r13 σ12 => bnd (fX0_findName F σ12 r13) (fun r15 σ14 => cIf (r15 = (-1)) (bndX (fX0_makeName F σ14 (nI q1)) (fun a19 σ19 => some (.inr (), o_s_fr σ19 (upd (o_fr σ19) q a19), 0, 0))) (some (.inr (), o_s_fr σ14 (upd (o_fr σ14) q r15), 0, 0))))) = some (r, σr, C + Cr, N + Nr) := fun {r σr Cr Nr v} hf0 hr0 => by
        rw [g1]
        refine bndX_k ?_
        show bnd (fX0_flatOf F σ' (o_fr σ' q1)) _ = _
        rw [hTl.2.1, fl1, bnd_s, hf0, bnd_s]
        exact hr0
      rcases P_find (F := F) hF hSl hfx with ⟨x, hx, hsx, hfn⟩ | ⟨hfn, hnone⟩
      · have hxo := ((hnk x).mp hx).1
        have hxb := Ch_mem os' hC hxo
        have hx3 := okO_3 hxb.2.2
        have hcl2 := hcls hfn (cIf_f (nI_nm1 (by omega)))
        rcases P_findR (F := F) (K := fun w21 σ22 => some (0, σ22)) (by omega) hMI2 hSl.mt hob b2 (by omega) (M' - 1) F 1 (by omega) (Nat.le_refl _) (by omega) with ⟨p, pp1, pp2, hQ, hfr⟩ | ⟨hfr, hnoQ⟩
        · obtain ⟨a, ha, hRa, -, hsa⟩ := factA p pp2 hQ
          have exa : x = a := hds x hx a ha (sameU_tr hsx hsa)
          subst exa
          have hfr1 : LX1_find_6 F (fun w21 σ22 => some (0, σ22)) (nI o) F 1 μl = some (nI p, μl) := hfr
          rw [hfr1, bnd_s]
          unfold JX1_name_70 JX1_name_96
          rw [cIf_f (nI_ne0 (by omega) (by omega)), cIf_f (show ¬ nI p ≤ 0 from nI_ge (a := 0) (b := p) (by omega) (by omega)), ck_t (in24 hq), cl24 hq, nmd_v]
          exact ⟨_, _, _, _, _, hcl2, rfl, htl, ⟨M', ⟨_, _, _, _, Sim_root (q := q) hSl (Or.inr ⟨x, p, rfl, rfl, hRa⟩)⟩, x1, by omega⟩, x3, by omega, by show N + 0 + pot σ ≤ pot σ' + 12; omega⟩
        · have hnr : ¬ Rch (o_fw σ') os' (o_fr σ') x := fun hr => by
            obtain ⟨p, e1, e2, hQ⟩ := factB x hx hsx hr
            exact hnoQ p e1 e2 hQ
          obtain ⟨n0, n1, n, n2, n3, n4, n5⟩ := hnm x hx
          have en : n = mlen μl o := nI_inj (by omega) (by omega) (n3.symm.trans (hsx.1.trans s6))
          subst en
          have hTb : Tb σ' os' x = false := by
            cases hb : Tb σ' os' x with
            | false => rfl
            | true => exact absurd (Tb_iff.mp hb) hnr
          have hsk : Tk σ' os' + sz (o_fw σ') x ≤ U' := tot_skip hTb os' hC (Nat.le_refl 0) hxo
          obtain ⟨L', L1, L2, L3, L4, L5⟩ := hSl.1.2.2.2.2.2.2.2.2.1
          have eL : L = L' := nI_inj (by omega) (by omega) (hL.symm.trans L1)
          obtain ⟨μ2, d1, f1, f2, f3, f4, f5, f6, f7, f8, f9, f10, f11, f12, f13, f14, f15, f16, f17, f18⟩ := m1 (by omega)
          have d1' : fX1_partOf F μl 5 (nI o) 0 (nI (mlen μl o)) = _ := P_partOf_t (k := 5) (i := 0) hMI2 (Nat.zero_le _) hgo d1
          generalize hμ3 : m_s_b (m_s_a μ2 (upd (m_a μ2) M' (nI o))) (upd (m_b (m_s_a μ2 (upd (m_a μ2) M' (nI o)))) M' (nI 0)) = μ3 at d1'
          have hfr1 : LX1_find_6 F (fun w21 σ22 => some (0, σ22)) (nI o) F 1 μl = some (0, μl) := hfr
          rw [hfr1, bnd_s]
          unfold JX1_name_70 JX1_name_96
          rw [cIf_t rfl, ck_t hin, hcl, nmd_v, ll1, d1', bnd_s, P_full1 (by omega) (by omega), bnd_s, cIf_f (show ¬ nI M' ≤ 0 from nI_ge (a := 0) (b := M') (by omega) (by omega)), ck_t (in24 hq), cl24 hq, nmd_v]
          have hTx : TxM μl (m_s_thrown μ3 0) M' 5 (mlen μl o) 1 := by
            subst hμ3
            exact ⟨f2, f3, f4, f5, f6, f7, f8, f9, f10, f11, f12, f13, f14, f18, fun o ho2 => ⟨(pk_un (by omega)).trans (congrFun f15 o), (pk_un (by omega)).trans (congrFun f16 o), congrFun f17 o⟩⟩
          have ha3 : m_a (m_s_thrown μ3 0) M' = nI o := by subst hμ3; exact pk_us
          have hb3 : m_b (m_s_thrown μ3 0) M' = nI 0 := by subst hμ3; exact pk_us
          have hmo : m_madeOf (m_s_thrown μ3 0) M' = 1 := by subst hμ3; exact (congrFun f14 M').trans pk_us
          have hkM : m_kind (m_s_thrown μ3 0) M' = nI 5 := by subst hμ3; exact (congrFun f5 M').trans pk_us
          have hMI' := hTx.mi hSl.2.1 (by omega) ll2 (Or.inr (Or.inl ⟨rfl, o, 0, ha3, hb3, b2, by omega, by omega⟩))
          have hag := hTx.agb
          have huM : ∀ k, uo (m_s_thrown μ3 0) M' k = uo μl o k := fun k => by
            rw [uo_1 hMI'.2.1 hMI'.mt hMI1 (by omega) hmo ha3 hb3 b2 (by omega) (by omega)]
            exact hag.uoE hMI2 hSl.mt b2 (by omega) _
          obtain ⟨tl1, tl2, tl3⟩ := hSl.2.1.tl
          have hSr := Sim_rst hSl
          have hS4 := Sim_add (μ' := m_s_thrown μ3 0) (u := x) hSr hSl.1 (fun _ h => h) hxo (fun o h => hnr h.2) (fun _ _ _ _ _ _ => rfl) hag hMI' (fun r hr => by
            rw [hTx.2.1]
            exact (hSr.2.2.2.2.2.1 r hr).mono (fun _ _ h => Or.inl h)) ⟨by rw [((hnk x).mp hx).2]; exact hkM, Or.inr ⟨n1, by rw [hTx.2.2.2.2.1]; exact (tl1 M' (Nat.le_refl _)).1, by rw [hTx.2.2.2.2.2.1]; exact (tl1 M' (Nat.le_refl _)).2, mlen μl o, ll2, (hTx.len ll2).1, by rw [n0]; exact n3, Or.inl ⟨Or.inr ((hnk x).mp hx).2, n0, n4, fun k hk => by
              rw [huM, ← s8 k hk]
              exact hsx.2 k (by rw [n3, nI_clamp (by omega)]; exact hk), n5⟩⟩⟩ (by rw [hTx.1]; exact hSl.2.2.2.2.2.2.2.1) (by obtain ⟨d, e1, e2⟩ := hSl.2.2.2.2.2.2.2.2; exact ⟨d, e1, by omega⟩)
          have hS5 := Sim_root (q := q) hS4 (x := nI x) (y := nI M') (Or.inr ⟨x, M', rfl, rfl, Or.inr ⟨rfl, rfl⟩⟩)
          exact ⟨_, _, _, _, _, hcl2, rfl, rfl, ⟨M' + 1, ⟨_, _, _, _, hS5⟩, by omega, by omega⟩, x3, by omega, by show N + 0 + pot σ ≤ pot σ' + 12; omega⟩
      · rcases P_findR (F := F) (K := fun w21 σ22 => some (0, σ22)) (by omega) hMI2 hSl.mt hob b2 (by omega) (M' - 1) F 1 (by omega) (Nat.le_refl _) (by omega) with ⟨p, pp1, pp2, hQ, hfr⟩ | ⟨hfr, hnoQ⟩
        · obtain ⟨a, ha, -, -, hsa⟩ := factA p pp2 hQ
          exact absurd hsa (hnone a ha)
        · have hfr1 : LX1_find_6 F (fun w21 σ22 => some (0, σ22)) (nI o) F 1 μl = some (0, μl) := hfr
          rw [hfr1, bnd_s]
          unfold JX1_name_70 JX1_name_96
          rw [cIf_t rfl, ck_t hin, hcl, nmd_v, ll1]
          obtain ⟨σ1, os1, U1, nl1, R1, hS1, hNS, hl1, hp1, hmk⟩ := P_makeFlatN hF hSl (k := 5) (n := mlen μl o) (by omega) ll2 rfl hL hLb
          rcases hmk with ⟨hf, e1⟩ | ⟨hf, σ2, C2, N2, e1, hX, e3, e4, e5, e6⟩
          · obtain ⟨μ2, d1, hFm⟩ := m2 hf
            have d1' : fX1_partOf F μl 5 (nI o) 0 (nI (mlen μl o)) = _ := P_partOf_f (k := 5) (i := 0) (Nat.zero_le _) hgo d1
            have e1' : fX0_makeFlat F σ' 5 (nI (mlen μl o)) = some (.inl 2, σ1, 1, 6) := e1
            rw [d1', bnd_s, P_full0, bnd_s, cIf_t zero_le0]
            have hcl2 := hcls (r := .inl 2) (σr := σ1) (Cr := 1) (Nr := 6) hfn (by
              rw [cIf_t rfl]
              unfold fX0_makeName
              rw [P_lengthIn hSl.rd hTl, bnd_s, e1', bndX_l, bndX_l])
            exact ⟨_, _, _, _, _, hcl2, rfl, rfl, ⟨M', ⟨os1, U1, nl1, R1, Sim_thrown (Sim_ab0 (Sim_MkF hS1 hFm) _ _) 2⟩, x1, by omega⟩, (hl1.trans hL.symm).trans x3, by omega, by omega⟩
          · obtain ⟨μ2, d1, f1, f2, f3, f4, f5, f6, f7, f8, f9, f10, f11, f12, f13, f14, f15, f16, f17, f18⟩ := m1 hf
            have d1' : fX1_partOf F μl 5 (nI o) 0 (nI (mlen μl o)) = _ := P_partOf_t (k := 5) (i := 0) hMI2 (Nat.zero_le _) hgo d1
            have e1' : fX0_makeFlat F σ' 5 (nI (mlen μl o)) = some (.inr (nI U1), σ2, C2, N2) := e1
            generalize hμ3 : m_s_b (m_s_a μ2 (upd (m_a μ2) M' (nI o))) (upd (m_b (m_s_a μ2 (upd (m_a μ2) M' (nI o)))) M' (nI 0)) = μ3 at d1'
            rw [d1', bnd_s, P_full1 (by omega) (by omega), bnd_s, cIf_f (show ¬ nI M' ≤ 0 from nI_ge (a := 0) (b := M') (by omega) (by omega)), ck_t (in24 hq), cl24 hq, nmd_v]
            have hRd := hX.rd hS1
            obtain ⟨a2, hT2⟩ := hRd.tx (q := q1) w1 w3l b2 (by omega) hk1l
            have hkd : kd (o_fw σ2) a2 ≠ 3 := fun e => hk3l (by rw [(hRd.1 a2 o hT2.2.2.2.1).2.2.2.2.1, e])
            obtain ⟨b', fm1, fm2⟩ := P_flatOf (F := F) hRd hT2.2.2.2.1 hT2.2.2.2.2 hkd
            obtain ⟨t3, t4, t5, t6, t7, t8, t9⟩ := id fm2
            have hls := hX.2.2.2.2.1
            have hlb := hRd.2.2.1
            obtain ⟨c, c1, c2, c3⟩ := P_copyUnits (F := F) (σ := σ2) (a := b') (b := U1) (W := (mlen μl o + 1) / 2) (frm := 0) (to := mlen μl o) (pos := 0) (by omega) (by omega) (by omega) (by omega) (by omega) (by omega) hlb (fun t _ ht => un_fresh e4 (by omega))
            have c1' : fX0_copyUnits F σ2 (nI b') 0 (nI (mlen μl o)) (nI U1) 0 = some (o_s_fw σ2 c) := c1
            have hX3 : Ext σ1 (o_s_fw σ2 c) U1 5 0 0 (4 + (mlen μl o + 1) / 2) := hX.fill (fun x hx => c2 x (by omega))
            obtain ⟨⟨hC1, hU1, hlw1, -⟩, -, -, ⟨hN1, hN2, hN3, hN4⟩, hnk1, hnd1, hnm1, -, -, st, st1, st2, st3⟩ := id hS1.1
            obtain ⟨⟨E1, E2, E3, E4, E5, E6, E7⟩, u1, u2, u3, u4, u5, u6, u7, u8⟩ := id hX3
            have hnlen := nl_len hC1 (by omega) (fun a ha => ((hnk1 a).mp ha).1) hnd1
            obtain ⟨σ4, Ca, Na, n1, n2, n3, n4, n5, n6, n7, n8, n9⟩ := P_addName (σ3 := o_s_fw σ2 c) (U1 := U1) (n := nl1.length) (E5.trans hN1) (by rw [E3]; exact hN2) (by rw [E3]; exact st3) hnlen (by rw [E3]; exact hN3)
            obtain ⟨v1, v2, v3, v4, v5, v6, v7, v8⟩ := id n4
            have hun4 : ∀ k, un (o_fw σ4) U1 k = if k < mlen μl o then uo μl o k else un (o_fw σ2) U1 k := fun k => by
              rw [v3]
              refine (c3 k).trans ?_
              by_cases hk : k < mlen μl o
              · rw [if_pos (by omega), if_pos hk, Nat.zero_add, Nat.sub_zero]
                exact t8 k hk
              · rw [if_neg (by omega), if_neg hk]
            have h43 : o_fw σ4 (U1 + 3) = nI (mlen μl o) := by
              rw [v3]
              exact (c2 _ (by omega)).trans e3
            have hodd : mlen μl o % 2 = 1 → un (o_fw σ4) U1 (mlen μl o) = 0 := fun _ => by
              rw [hun4, if_neg (by omega)]
              exact un_fresh e4 (by omega)
            have hold : ∀ x, x < U1 → o_fw σ4 x = o_fw σ1 x := fun x hx => by rw [v3]; exact u6 x hx
            have h4U : o_fw σ4 U1 = nI (hdr 5 0 0 (4 + (mlen μl o + 1) / 2)) := by rw [v3]; exact u7
            obtain ⟨r1, r2, r3, r4, r5⟩ := hdr_rd (f := o_fw σ4) (a := U1) (k := 5) (l := 0) (v := 0) (s := 4 + (mlen μl o + 1) / 2) (by omega) (by omega) (by omega) (by omega) h4U
            have hO4 : OI σ4 (os1 ++ [U1]) (U1 + (4 + (mlen μl o + 1) / 2)) (nl1 ++ [U1]) := by
              refine OI_name hS1.1 (v1.trans E1) (v4.trans E2) (v6.trans E6) (v7.trans E7) (v5.trans u1) (by rw [v2]; exact u4) (by rw [v2]; exact u3) (fun L q1 q2 => by rw [v2]; exact u5 L q1 q2) hold h4U (by rw [v3]; exact u8) (by omega) (by omega) n5 n6 n7 (fun j hj => (n8 j hj).trans (congrFun E4 j)) n9 ⟨r2, r3, mlen μl o, ll2, h43, r4, hodd⟩ (fun y hy hsy => ?_)
              obtain ⟨z, hz, z1, z2⟩ := hNS y hy
              obtain ⟨m0, m1, mm, m3, m4, m5, m6⟩ := hnm1 y hy
              have hym := Ch_mem os1 hC1 ((hnk1 y).mp hy).1
              have hy3 := okO_3 hym.2.2
              have ey : o_fw σ4 (y + 3) = o_fw σ1 (y + 3) := hold _ (by omega)
              have ez : o_fw σ' (z + 3) = nI (mlen μl o) := by rw [← z1, ← ey, hsy.1, h43]
              refine hnone z hz ⟨ez.trans s6.symm, fun k hk => ?_⟩
              have hk2 := hk
              rw [ez, nI_clamp (by omega)] at hk2
              have emm : mm = mlen μl o := nI_inj (by omega) (by omega) (m4.symm.trans (z1.trans ez))
              rw [← z2 k hk, s8 k hk2]
              have := hsy.2 k (by rw [ey, z1]; exact hk)
              rw [hun4, if_pos hk2] at this
              rw [← this]
              unfold un
              rw [hold _ (by omega)]
            have hTx : TxM μl (m_s_thrown μ3 0) M' 5 (mlen μl o) 1 := by
              subst hμ3
              exact ⟨f2, f3, f4, f5, f6, f7, f8, f9, f10, f11, f12, f13, f14, f18, fun o ho2 => ⟨(pk_un (by omega)).trans (congrFun f15 o), (pk_un (by omega)).trans (congrFun f16 o), congrFun f17 o⟩⟩
            have ha3 : m_a (m_s_thrown μ3 0) M' = nI o := by subst hμ3; exact pk_us
            have hb3 : m_b (m_s_thrown μ3 0) M' = nI 0 := by subst hμ3; exact pk_us
            have hmo : m_madeOf (m_s_thrown μ3 0) M' = 1 := by subst hμ3; exact (congrFun f14 M').trans pk_us
            have hkM : m_kind (m_s_thrown μ3 0) M' = nI 5 := by subst hμ3; exact (congrFun f5 M').trans pk_us
            have hMI' := hTx.mi hS1.2.1 (by omega) ll2 (Or.inr (Or.inl ⟨rfl, o, 0, ha3, hb3, b2, by omega, by omega⟩))
            have hag := hTx.agb
            have huM : ∀ k, uo (m_s_thrown μ3 0) M' k = uo μl o k := fun k => by
              rw [uo_1 hMI'.2.1 hMI'.mt hMI1 (by omega) hmo ha3 hb3 b2 (by omega) (by omega)]
              exact hag.uoE hMI2 hSl.mt b2 (by omega) _
            obtain ⟨tl1, tl2, tl3⟩ := hSl.2.1.tl
            have hlt : ∀ a o, R1 a o → a + sz (o_fw σ1) a ≤ U1 ∧ 3 ≤ sz (o_fw σ1) a := fun a o h => by
              have := Ch_mem os1 hC1 (hS1.2.2.1 a o h).1
              exact ⟨this.2.1, okO_3 this.2.2⟩
            have hS4 := Sim_add (μ' := m_s_thrown μ3 0) (u := U1) hS1 hO4 (fun a ha => List.mem_append_left _ ha) (List.mem_append_right _ List.mem_cons_self) (fun o h => by have := hlt U1 o h; omega) (fun a o h i hi _ => hold _ (by have := hlt a o h; omega)) hag hMI' (fun r hr => by
              rw [v4, E2, hTx.2.1]
              exact (hS1.2.2.2.2.2.1 r hr).mono (fun _ _ h => Or.inl h)) (ObR_flat (Or.inr rfl) ll2 rfl h4U h43 (fun i hi => by rw [huM, hun4, if_pos hi]) hodd hkM (hTx.len ll2).1 (by rw [hTx.2.2.2.2.1]; exact (tl1 M' (Nat.le_refl _)).1) (by rw [hTx.2.2.2.2.2.1]; exact (tl1 M' (Nat.le_refl _)).2)) (by rw [v1, E1, hTx.1]; exact hS1.2.2.2.2.2.2.2.1) (by
                obtain ⟨d, e1, e2⟩ := hS1.2.2.2.2.2.2.2.2
                exact ⟨d + 1, by rw [v8, u2, e1, nI_1], by omega⟩)
            have hS5 := Sim_root (q := q) hS4 (x := nI U1) (y := nI M') (Or.inr ⟨U1, M', rfl, rfl, Or.inr ⟨rfl, rfl⟩⟩)
            have hcl2 := hcls (r := .inr ()) (σr := o_s_fr σ4 (upd (o_fr σ4) q (nI U1))) (Cr := C2 + Ca + 0) (Nr := N2 + Na + 0) hfn (by
              rw [cIf_t rfl]
              have hmn : fX0_makeName F σ' (nI q1) = some (.inr (nI U1), σ4, C2 + Ca, N2 + Na) := by
                unfold fX0_makeName
                rw [P_lengthIn hSl.rd hTl, bnd_s, e1']
                refine bndX_k ?_
                rw [ck_t (in24 w1), cl24 w1, nmd_v, hT2.2.1, fm1, bnd_s, c1', bnp_s]
                exact n1
              rw [hmn]
              exact bndX_k rfl)
            have hpe : pot (o_s_fw σ2 c) = pot σ2 := rfl
            exact ⟨_, _, _, _, _, hcl2, rfl, rfl, ⟨M' + 1, ⟨_, _, _, _, hS5⟩, by omega, by omega⟩, ((v1.trans E1).trans (hl1.trans hL.symm)).trans x3, by omega, by show N + (N2 + Na + 0) + pot σ ≤ pot σ4 + 12; omega⟩
    · unfold JX1_name_70 fX1_partOf JX1_name_96
      have ll : m_length μ' o = nI (mlen μ o) := (x6 o b3).trans (hS.mt o b2 b3).1
      rw [g1, g2, bndX_l, bnd_s, cIf_t rfl, cIf_t rfl, ck_t hin, hcl, nmd_v, g4, bnd_s, cIf_t rfl, bnd_s, P_full0, bnd_s, cIf_t zero_le0]
      exact ⟨_, _, _, _, _, rfl, rfl, rfl, ⟨M', ⟨os', U', nl', R', Sim_thrown g6 2⟩, x1, by omega⟩, x3, by omega, by omega⟩
  · rw [P_needRoot_f hn, P_isRoot_f hn, bndN_l, bnp_s, cIf_t rfl, fail]
    exact ⟨_, _, _, _, _, rfl, rfl, rfl, After.keep (Sim_thrown hS 1) (by omega) (by omega)⟩
