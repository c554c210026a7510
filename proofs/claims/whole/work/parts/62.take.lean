/-! take -/
theorem P_upTo_t {F j m : Nat} (h : j ≤ m) (hm : m < 2 ^ 30) : fX0_isUpTo F (nI j) (nI m) = some 1 ∧ fX1_in F (nI j) 0 (nI m) = some 1 := by
  unfold fX0_isUpTo fX1_in
  rw [cIf_f (nI_pos (by omega)), cIf_f (nI_nlt (by omega) (by omega))]
  exact ⟨rfl, rfl⟩
theorem P_upTo_f {F m : Nat} {p : Int32} (h : p < 0 ∨ nI (m + 1) ≤ p) (hm : m < 2 ^ 30) : fX0_isUpTo F p (nI m) = some 0 ∧ fX1_in F p 0 (nI m) = some 0 := by
  unfold fX0_isUpTo fX1_in
  by_cases h0 : p < 0
  · rw [cIf_t h0]; exact ⟨rfl, rfl⟩
  · have h1 := h.resolve_left h0
    have h2 : nI m < p := by
      rw [Int32.le_iff_toInt_le, nI_toInt (by omega)] at h1
      rw [Int32.lt_iff_toInt_lt, nI_toInt (by omega)]
      omega
    rw [cIf_f h0, cIf_t h2]
    exact ⟨rfl, rfl⟩
theorem bndX_k {α β : Type} {a : α} {σ σ' : oS} {c n C N : Nat} {k : α → oS → xT β} {r : Int32 ⊕ β} (h : k a σ = some (r, σ', C, N)) : bndX (some (.inr a, σ, c, n)) k = some (r, σ', c + C, n + N) := by
  show addC c n (k a σ) = _
  rw [h]
  rfl
theorem upTo_cs (p : Int32) (m : Nat) (hm : m < 2 ^ 30) : (∃ j, j ≤ m ∧ p = nI j) ∨ (p < 0 ∨ nI (m + 1) ≤ p) := by
  rcases pk_ix p (n := m + 1) (by omega) with h | h | ⟨j, h1, h2⟩
  · exact Or.inr (Or.inl h)
  · exact Or.inr (Or.inr h)
  · exact Or.inl ⟨j, by omega, h2⟩
theorem MT_new {μ μ' : mS} {M : Nat} (h : MT μ M) (hA : ∀ o, 1 ≤ o → o < M → m_length μ' o = m_length μ o ∧ m_madeOf μ' o = m_madeOf μ o ∧ m_a μ' o = m_a μ o ∧ m_b μ' o = m_b μ o) (hn : m_length μ' M = nI (mlen μ' M) ∧ mlen μ' M ≤ 4000 ∧
    ((m_madeOf μ' M = 0 ∧ mlen μ' M ≤ 4) ∨ (m_madeOf μ' M = 1 ∧ ∃ t s, m_a μ' M = nI t ∧ m_b μ' M = nI s ∧ 1 ≤ t ∧ t < M ∧ s + mlen μ' M ≤ mlen μ' t) ∨
     (m_madeOf μ' M = 2 ∧ ∃ t1 t2, m_a μ' M = nI t1 ∧ m_b μ' M = nI t2 ∧ 1 ≤ t1 ∧ t1 < M ∧ 1 ≤ t2 ∧ t2 < M ∧ mlen μ' M = mlen μ' t1 + mlen μ' t2 ∧ 1 ≤ mlen μ' t1 ∧ 1 ≤ mlen μ' t2))) : MT μ' (M + 1) := by
  intro o o1 o2
  by_cases e : o = M
  · subst e; exact hn
  · exact MT_ag h hA o o1 (by omega)
/-- a new object on both sides -/
theorem Sim_new {σ1 σ3 : oS} {μ μ' : mS} {os nl : List Nat} {U M k l v s : Nat} {R : Nat → Nat → Prop} (hS : Sim σ1 μ os U nl M R) (hX : Ext σ1 σ3 U k l v s) (hk : k < 16) (hk5 : k ≠ 5) (hl : l < 16) (hv : v < 16) (hs : s < 4096) (hs3 : 3 + l + 2 * v ≤ s) (hpl : ∀ i, i < l → o_fw σ3 (U + 3 + i) = -1 ∨ ∃ b ∈ os, o_fw σ3 (U + 3 + i) = nI b) (hpv : ∀ j, j < v → ¬ isR (o_fw σ3 (U + 3 + l + 2 * j))) (hA : AgB μ μ' M) (hMI' : MI μ' (M + 1)) (hroot : m_root μ' = m_root μ) (hlim : m_limit μ' = m_limit μ) (hob : ObR (o_fw σ3) μ' (RA R U M) U M) : Sim σ3 μ' (os ++ [U]) (U + s) nl (M + 1) (RA R U M) := by
  have hC := hS.1.1.1
  obtain ⟨⟨E1, E2, E3, E4, E5, E6, E7⟩, x1, x2, x3, x4, x5, x6, x7, x8⟩ := id hX
  have hlt : ∀ a o, R a o → a + sz (o_fw σ1) a ≤ U ∧ 3 ≤ sz (o_fw σ1) a := fun a o h => by
    have := Ch_mem os hC (hS.2.2.1 a o h).1
    exact ⟨this.2.1, okO_3 this.2.2⟩
  refine Sim_add hS (OI_new hS.1 hX hk hk5 hl hv hs hs3 hpl hpv) (fun a ha => List.mem_append_left _ ha) (List.mem_append_right _ List.mem_cons_self) (fun o h => by have := hlt U o h; omega) (fun a o h i hi _ => x6 _ (by have := hlt a o h; omega)) hA hMI' (fun q hq => ?_) hob ?_ ?_
  · rw [E2, hroot]
    exact (hS.2.2.2.2.2.1 q hq).mono (fun _ _ h => Or.inl h)
  · rw [E1, hlim]; exact hS.2.2.2.2.2.2.2.1
  · obtain ⟨d, d1, d2⟩ := hS.2.2.2.2.2.2.2.2
    exact ⟨d + 1, by rw [x2, d1, nI_1], by omega⟩
theorem After.mk {σ σ1 σ2 σ3 : oS} {M M' : Nat} {μ' : mS} {os nl : List Nat} {U : Nat} {R : Nat → Nat → Prop} (h : Sim σ3 μ' os U nl M' R) (hM : M ≤ M') (hM2 : M' ≤ M + 2) {L : Nat} (h1 : o_lim σ = nI L) (h2 : o_lim σ3 = nI L) {C N : Nat} (hC : C ≤ 6) (hp1 : pot σ1 = pot σ) (hN : N + pot σ1 ≤ pot σ2 + 12) (hp2 : pot σ2 ≤ pot σ3) : After σ M σ3 μ' C N := ⟨⟨M', ⟨os, U, nl, R, h⟩, hM, hM2⟩, h2.trans h1.symm, hC, by omega⟩
theorem Sim_L {σ : oS} {μ : mS} {os nl : List Nat} {U M : Nat} {R : Nat → Nat → Prop} (hS : Sim σ μ os U nl M R) : ∃ L, o_lim σ = nI L ∧ m_limit μ = nI L ∧ L ≤ 1048576 := by
  obtain ⟨L, l1, l2, l3, l4, l5⟩ := hS.1.2.2.2.2.2.2.2.2.1
  exact ⟨L, l1, hS.2.2.2.2.2.2.2.1.symm.trans l1, l3⟩
theorem cat_0 : cat 0 0 = 0 := by decide
theorem isR_0 : ¬ isR 0 := by rw [isR_iff]; decide
theorem C_take {F : Nat} {σ : oS} {μ : mS} {M : Nat} (hF : 1048600 < F) (hM : M + 2 ≤ 4000) (p1 p2 p3 p4 : Int32) (h : Sm σ μ M) : ∃ r σ' C N μ', fX0_take F σ p1 p2 p3 p4 = some (r, σ', C, N) ∧ fX1_take F μ p1 p2 p3 p4 = some μ' ∧ m_thrown μ' = xC r ∧ After σ M σ' μ' C N := by
  obtain ⟨os, U, nl, R, hS⟩ := h
  have fail : ∀ v1 v2 v3 v4, JX1_take_43 F μ v1 v2 v3 v4 = some (m_s_thrown μ 1) := fun v1 v2 v3 v4 => by
    unfold JX1_take_43 JX1_take_44
    rw [P_says0, bnd_s, cIf_t rfl]
  unfold fX0_take fX1_take
  have e8 : (8 : Int32) = nI 8 := rfl
  have e16 : (16 : Int32) = nI 16 := rfl
  rw [e8, e16]
  rcases root_cs p1 with ⟨q, hq, rfl⟩ | hn
  · rw [P_needRoot_t hq, P_isRoot_t hq, bndN_r, bnp_s, cIf_f one_ne0]
    rcases upTo_cs p2 8 (by omega) with ⟨l, hl, rfl⟩ | hn
    · obtain ⟨a1, a2⟩ := P_upTo_t (F := F) hl (by omega)
      rw [a1, a2, bnp_s, bnp_s, cIf_f one_ne0, cIf_f one_ne0]
      rcases upTo_cs p3 8 (by omega) with ⟨v, hv, rfl⟩ | hn
      · obtain ⟨a1, a2⟩ := P_upTo_t (F := F) hv (by omega)
        rw [a1, a2, bnp_s, bnp_s, cIf_f one_ne0, cIf_f one_ne0]
        rcases upTo_cs p4 16 (by omega) with ⟨p, hp, rfl⟩ | hn
        · obtain ⟨a1, a2⟩ := P_upTo_t (F := F) hp (by omega)
          rw [a1, a2, bnp_s, bnp_s, cIf_f one_ne0, cIf_f one_ne0]
          obtain ⟨L, hL, hmL, hLb⟩ := Sim_L hS
          obtain ⟨hMI1, hMI2, ho, hk0, -⟩ := id hS.2.1
          obtain ⟨tl1, tl2, tl3⟩ := hS.2.1.tl
          have hin : vp_in (nI M) 4096 := vp_in_nI (by omega) (by omega)
          have hcl : (nI M).toNatClampNeg = M := nI_clamp (by omega)
          generalize hμt : m_s_plain (m_s_values (m_s_links (m_s_thrown μ 0) (upd (m_links μ) M (nI l))) (upd (m_values μ) M (nI v))) (upd (m_plain μ) M (nI p)) = μt
          have hA : AgB μ μt M := by
            subst hμt
            exact fun o o1 o2 => ⟨⟨rfl, pk_un (by omega), pk_un (by omega), pk_un (by omega), rfl, rfl, rfl, rfl, rfl, fun i _ => ⟨rfl, rfl, rfl⟩, fun i _ => rfl⟩, rfl⟩
          have x1 : m_objects μt = nI M := by subst hμt; exact ho
          have x2 : m_root μt = m_root μ := by subst hμt; rfl
          have x3 : m_limit μt = nI L := by subst hμt; exact hmL
          have x4 : m_links μt = upd (m_links μ) M (nI l) := by subst hμt; rfl
          have x5 : m_values μt = upd (m_values μ) M (nI v) := by subst hμt; rfl
          have x6 : m_plain μt = upd (m_plain μ) M (nI p) := by subst hμt; rfl
          have x7 : m_link μt = m_link μ := by subst hμt; rfl
          have x8 : m_refers μt = m_refers μ := by subst hμt; rfl
          have x9 : m_number μt = m_number μ := by subst hμt; rfl
          have x10 : m_word μt = m_word μ := by subst hμt; rfl
          have x11 : m_kind μt = m_kind μ := by subst hμt; rfl
          have x12 : m_thrown μt = 0 := by subst hμt; rfl
          have hev : JX1_take_44 F μ (nI q) (nI l) (nI v) (nI p) 1 = bnd (fX1_make F μt 1 0 0) (fun r13 σ12 => cIf (r13 = 0) (nmd (m_s_thrown σ12 2) (fun σ17 => some σ17)) (ck (vp_in (nI q) 24) (nmd (m_s_root σ12 (upd (m_root σ12) (nI q).toNatClampNeg r13)) (fun σ16 => some σ16)))) := by
            unfold JX1_take_44
            rw [P_says1, bnd_s, cIf_f one_ne0, mgs_objects_thrown, ho, ck_t hin, hcl, nmd_v, mgs_objects_links, mgs_objects_thrown, ho, ck_t hin, hcl, nmd_v, mgs_objects_values, mgs_objects_links, mgs_objects_thrown, ho, ck_t hin, hcl, nmd_v, mgs_links_thrown, mgs_values_links, mgs_values_thrown, mgs_plain_values, mgs_plain_links, mgs_plain_thrown, hμt]
          rw [hev]
          obtain ⟨σ1, os1, U1, nl1, R1, hS1, hl1, hp1, hmk⟩ := P_make hF hS (k := 1) (l := l) (v := v) (p := p) (s := 3 + l + 2 * v + p) (by omega) (by omega) (by omega) rfl (by omega) hL hLb
          obtain ⟨m1, m2⟩ := P_mmake (k := 1) (n := 0) (h := 0) (s := 3 + l + 2 * v + p) hF hS hA x1 x2 x3 hLb (by omega) (fun μ' y1 y2 y3 y4 y5 => by
            unfold fX1_words
            rw [ck_t hin, hcl, nmd_v, y1, cIf_t (show nI 1 = 1 from rfl), ck_t hin, nmd_v, ck_t hin, nmd_v, ck_t hin, nmd_v, y3, y4, y5, x4, x5, x6, pk_us, pk_us, pk_us, nI3l, nI_2m, nI_add, nI_add, nI_add])
          rcases hmk with ⟨hf, c1⟩ | ⟨hf, σ2, C, N, c1, c2, c3, c4⟩
          · obtain ⟨μ2, d1, f1, f2, f3, f4, f5, f6, f7, f8, f9, f10, f11, f12, f13, f14, f15, f16, f17, f18⟩ := m2 hf
            have d1' : fX1_make F μt 1 0 0 = some (0, μ2) := d1
            have c1' : fX0_make F σ 1 (nI l) (nI v) (nI p) = some (.inl 2, σ1, 1, 6) := c1
            rw [c1', d1', bndX_l, bnd_s, cIf_t rfl, nmd_v]
            refine ⟨_, _, _, _, _, rfl, rfl, rfl, ?_⟩
            have hAg : AgB μ μ2 M := hA.tr (fun o o1 o2 => by
              refine ⟨⟨?_, ?_, ?_, ?_, ?_, ?_, by rw [f15], by rw [f16], by rw [f18], fun i _ => ⟨by rw [f9], by rw [f11], by rw [f10]⟩, fun i _ => by rw [f12]⟩, by rw [f17]⟩
              · rw [f5]; exact pk_un (by omega)
              · rw [f6]; exact pk_un (by omega)
              · rw [f7]; exact pk_un (by omega)
              · rw [f8]; exact pk_un (by omega)
              · rw [f13]; exact pk_un (by omega)
              · rw [f14]; exact pk_un (by omega))
            have hS2 : Sim σ1 μ2 os1 U1 nl1 M R1 := Sim_mu hS1 hAg f4 (by rw [f5, pk_un (by omega), x11]; exact hk0) ⟨fun i hi => by
              rw [f6, f7, x4, x5]
              by_cases e : i = M
              · rw [e, pk_us, pk_us]; exact ⟨rfl, rfl⟩
              · rw [pk_un e, pk_un e, pk_un e, pk_un e]; exact tl1 i hi, by rw [f9, f11, f10, x7, x8, x9]; exact tl2, by rw [f12, x10]; exact tl3⟩ (f3.trans x2) (f2.trans (x3.trans hmL.symm))
            exact After.mk (Sim_thrown hS2 2) (Nat.le_refl _) (by omega) hL hl1 (by omega) hp1 (σ2 := σ1) (by omega) (Nat.le_refl _)
          · obtain ⟨μ2, d1, f1, f2, f3, f4, f5, f6, f7, f8, f9, f10, f11, f12, f13, f14, f15, f16, f17, f18⟩ := m1 hf
            have d1' : fX1_make F μt 1 0 0 = some (nI M, μ2) := d1
            have c1' : fX0_make F σ 1 (nI l) (nI v) (nI p) = some (.inr (nI U1), σ2, C, N) := c1
            have hM0 : ¬ nI M = 0 := nI_ne0 (by omega) (by omega)
            rw [c1', d1', bnd_s, cIf_f hM0, ck_t (in24 hq), cl24 hq, nmd_v]
            obtain ⟨E, u1, u2, u3, u4, u5, n1, n2, n3, n4, n5⟩ := id c2
            obtain ⟨r1, r2, r3, r4, r5⟩ := hdr_rd (f := o_fw σ2) (a := U1) (k := 1) (l := l) (v := v) (s := 3 + l + 2 * v + p) (by omega) (by omega) (by omega) (by omega) n2
            have hAg : AgB μ μ2 M := hA.tr (fun o o1 o2 => by
              refine ⟨⟨?_, by rw [f6], by rw [f7], by rw [f8], ?_, ?_, by rw [f15], by rw [f16], by rw [f18], fun i _ => ⟨by rw [f9], by rw [f11], by rw [f10]⟩, fun i _ => by rw [f12]⟩, by rw [f17]⟩
              · rw [f5]; exact pk_un (by omega)
              · rw [f13]; exact pk_un (by omega)
              · rw [f14]; exact pk_un (by omega))
            have hlen : m_length μ2 M = nI 0 := by rw [f13]; exact pk_us
            have hml : mlen μ2 M = 0 := by unfold mlen; rw [hlen]; rfl
            have hMI' : MI μ2 (M + 1) := MI_mk (by omega) (by omega) f4 (by rw [f5, pk_un (by omega), x11]; exact hk0) (MT_new hS.mt hAg.txt ⟨by rw [hml]; exact hlen, by omega, Or.inl ⟨by rw [f14]; exact pk_us, by omega⟩⟩)
              ⟨fun i hi => by rw [f6, f7, x4, x5, pk_un (by omega), pk_un (by omega)]; exact tl1 i (by omega), fun i hi => by rw [f9, f11, f10, x7, x8, x9]; exact tl2 i (by omega), fun i hi => by rw [f12, x10]; exact tl3 i (by omega)⟩
            have hob : ObR (o_fw σ2) μ2 (RA R1 U1 M) U1 M := by
              refine ⟨by rw [r1, f5]; exact pk_us, Or.inl ⟨r1, by omega, by omega, by omega, by rw [r2, f6, x4]; exact pk_us, by rw [r3, f7, x5]; exact pk_us, ?_, fun i hi => ?_, fun j hj => ?_, fun i hi => ?_, hlen⟩⟩
              · rw [r2, r3, r4, f8, x6, show 3 + l + 2 * v + p - (3 + l + 2 * v) = p by omega]; exact pk_us
              · rw [r2] at hi
                exact Or.inl ⟨n4 i hi, by rw [f9, x7]; exact (tl2 _ (by omega)).1⟩
              · rw [r3] at hj
                rw [r2, show U1 + 3 + l + 2 * j = U1 + (3 + l + 2 * j) by omega, n5 _ (by omega) (by omega), show U1 + (3 + l + 2 * j) + 1 = U1 + (3 + l + 2 * j + 1) by omega, n5 _ (by omega) (by omega), f11, x8, f10, x9]
                exact Or.inr ⟨isR_0, (tl2 _ (by omega)).2.1, by rw [cat_0]; exact (tl2 _ (by omega)).2.2⟩
              · rw [r2, r3, r4] at hi
                rw [r2, r3, n5 _ (by omega) (by omega), f12, x10]
                exact (tl3 _ (by omega)).symm
            have hS3 := Sim_new hS1 c2.ext (by omega) (by omega) (by omega) (by omega) (by omega) (by omega) (fun i hi => Or.inl (n4 i hi)) (fun j hj => by rw [show U1 + 3 + l + 2 * j = U1 + (3 + l + 2 * j) by omega, n5 _ (by omega) (by omega)]; exact isR_0) hAg hMI' (f3.trans x2) (f2.trans (x3.trans hmL.symm)) hob
            have hS4 := Sim_root (q := q) hS3 (x := nI U1) (y := nI M) (Or.inr ⟨U1, M, rfl, rfl, Or.inr ⟨rfl, rfl⟩⟩)
            refine ⟨.inr (), _, C + 0, N + 0, _, bndX_k (σ' := o_s_fr σ2 (upd (o_fr σ2) q (nI U1))) (by rw [ck_t (in24 hq)]; rfl), rfl, f1.trans x12, ?_⟩
            exact After.mk (σ1 := σ1) (σ2 := σ2) hS4 (by omega) (by omega) hL (E.1.trans hl1) (by omega) hp1 (by omega) (Nat.le_refl _)
        · obtain ⟨a1, a2⟩ := P_upTo_f (F := F) hn (by omega)
          rw [a1, a2, bnp_s, bnp_s, cIf_t rfl, cIf_t rfl, fail]
          exact ⟨_, _, _, _, _, rfl, rfl, rfl, After.keep (Sim_thrown hS 1) (by omega) (by omega)⟩
      · obtain ⟨a1, a2⟩ := P_upTo_f (F := F) hn (by omega)
        rw [a1, a2, bnp_s, bnp_s, cIf_t rfl, cIf_t rfl, fail]
        exact ⟨_, _, _, _, _, rfl, rfl, rfl, After.keep (Sim_thrown hS 1) (by omega) (by omega)⟩
    · obtain ⟨a1, a2⟩ := P_upTo_f (F := F) hn (by omega)
      rw [a1, a2, bnp_s, bnp_s, cIf_t rfl, cIf_t rfl, fail]
      exact ⟨_, _, _, _, _, rfl, rfl, rfl, After.keep (Sim_thrown hS 1) (by omega) (by omega)⟩
  · rw [P_needRoot_f hn, P_isRoot_f hn, bndN_l, bnp_s, cIf_t rfl, fail]
    exact ⟨_, _, _, _, _, rfl, rfl, rfl, After.keep (Sim_thrown hS 1) (by omega) (by omega)⟩
