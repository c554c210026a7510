/-! goOver, on both sides -/
/-- the joined text gets its flat one -/
theorem Sim_spread {σ σ' : oS} {μ μ' : mS} {os nl : List Nat} {U M a o b p n : Nat} {R : Nat → Nat → Prop} (hS : Sim σ μ os U nl M R) (hR : R a o) (hT : ObT (o_fw σ) μ R a o) (hk : kd (o_fw σ) a = 3) (hp : R b p) (hkp : m_kind μ p = 2) (hn4 : n ≤ 4000) (hn : m_length μ o = nI n) (hlp : m_length μ p = nI n) (hup : ∀ k, k < n → uo μ p k = uo μ o k)
    (hσ : σ' = o_s_fw (o_s_fw (o_s_fw σ (upd (o_fw σ) a (nI (hdr 4 2 0 6)))) (upd (upd (o_fw σ) a (nI (hdr 4 2 0 6))) (a + 3) (nI b))) (upd (upd (upd (o_fw σ) a (nI (hdr 4 2 0 6))) (a + 3) (nI b)) (a + 4) (-1)))
    (hμ : μ' = m_s_spread (m_s_kind μ (upd (m_kind μ) o 4)) (upd (m_spread μ) o (nI p))) : Sim σ' μ' os U nl M R := by
  obtain ⟨q1, q2, q3, q4, q5, q6, q7, q8, q9⟩ := Sim_ob hS hR
  have h3 := okO_3 q5
  have hC := hS.1.1.1
  obtain ⟨t1, t2, t3, k, t4, t5, t6, ht⟩ := id hT
  have ek : n = k := nI_inj (by omega) (by omega) (hn.symm.trans t5)
  subst ek
  rcases ht with ⟨e | e, -⟩ | ⟨-, x2, x3, x4, x5, -⟩ | ⟨e, -⟩
  · omega
  · omega
  · have w0 : o_fw σ' a = nI (hdr 4 2 0 6) := by subst hσ; exact (pk_un (by omega)).trans ((pk_un (by omega)).trans pk_us)
    have w3 : o_fw σ' (a + 3) = nI b := by subst hσ; exact (pk_un (by omega)).trans pk_us
    have w4 : o_fw σ' (a + 4) = -1 := by subst hσ; exact pk_us
    have wo : ∀ x, x ≠ a → x ≠ a + 3 → x ≠ a + 4 → o_fw σ' x = o_fw σ x := fun x e1 e2 e3 => by subst hσ; exact (pk_un e3).trans ((pk_un e2).trans (pk_un e1))
    obtain ⟨r1, r2, r3, r4, r5⟩ := hdr_rd (f := o_fw σ') (a := a) (k := 4) (l := 2) (v := 0) (s := 6) (by omega) (by omega) (by omega) (by omega) w0
    have hout : ∀ x, x < a ∨ a + sz (o_fw σ) a ≤ x → o_fw σ' x = o_fw σ x := fun x hx => wo x (by omega) (by omega) (by omega)
    have hE : EqO σ' σ := by subst hσ; exact ⟨rfl, rfl, rfl, rfl, rfl, rfl, rfl⟩
    have hus : o_us σ' = o_us σ := by subst hσ; rfl
    have hlw : o_lw σ' = o_lw σ := by subst hσ; rfl
    have hmd : o_md σ' = o_md σ := by subst hσ; rfl
    have hmk : m_kind μ' = upd (m_kind μ) o 4 := by subst hμ; rfl
    have hms : m_spread μ' = upd (m_spread μ) o (nI p) := by subst hμ; rfl
    have hko : m_kind μ o = nI 3 := by rw [q9.1, hk]
    have hpo : p ≠ o := fun e => by rw [e, hko] at hkp; exact absurd hkp (by decide)
    have hT' : ∀ o, 1 ≤ o → o < M → m_length μ' o = m_length μ o ∧ m_madeOf μ' o = m_madeOf μ o ∧ m_a μ' o = m_a μ o ∧ m_b μ' o = m_b μ o ∧ m_units μ' o = m_units μ o := fun o _ _ => by subst hμ; exact ⟨rfl, rfl, rfl, rfl, rfl⟩
    have hu : ∀ o, 1 ≤ o → o < M → ∀ k, uo μ' o k = uo μ o k := fun o o1 o2 k => uo_congr hS.2.1.2.1 hS.mt hT' _ o k o1 o2
    have hpb := hS.2.2.1 b p hp
    refine Sim_one hS (OI_one hS.1 q1 hE hus hlw (by rw [hk]; decide) (by rw [r1]; decide) hout ((wo _ (by omega) (by omega) (by omega)).trans (hS.1.2.1.2 a q1)) ⟨r5, by rw [r2, r3, r4]; omega⟩ (by rw [r4, x3]) (fun x hx => ?_)) hR (fun c d hRc hne i hi _ => ?_) (fun d _ _ hd => ?_) hT' (fun e => ?_) ?_ ?_ ?_ (fun r hr => ?_) ?_ ?_ ?_
    · rcases hx with ⟨i, hi, e⟩ | ⟨j, hj, -⟩
      · rw [r2] at hi
        have hi2 : i = 0 ∨ i = 1 := by omega
        rcases hi2 with rfl | rfl
        · exact Or.inr ⟨b, hpb.1, e.symm.trans w3⟩
        · exact Or.inl (e.symm.trans w4)
      · omega
    · have ha := (Sim_ob hS hRc).1
      refine hout _ ?_
      rcases Nat.lt_or_gt_of_ne hne with hl | hl
      · have := Ch_sep os hC ha q1 hl; omega
      · have := Ch_sep os hC q1 ha hl; omega
    · have e1 : m_kind μ' d = m_kind μ d := by rw [hmk]; exact pk_un hd
      have e2 : m_spread μ' d = m_spread μ d := by rw [hms]; exact pk_un hd
      subst hμ
      exact ⟨e1, rfl, rfl, rfl, rfl, rfl, rfl, rfl, e2, fun i _ => ⟨rfl, rfl, rfl⟩, fun i _ => rfl⟩
    · rw [hko] at e
      exact absurd e (by decide)
    · subst hμ; exact hS.2.1.2.2.1
    · rw [hmk, pk_un (by omega)]; exact hS.2.1.2.2.2.1
    · have := hS.2.1.tl
      subst hμ
      exact this
    · have e1 : m_root μ' = m_root μ := by subst hμ; rfl
      rw [hE.2.1, e1]
      exact hS.2.2.2.2.2.1 r hr
    · have e1 : m_links μ' o = m_links μ o := by subst hμ; rfl
      have e2 : m_values μ' o = m_values μ o := by subst hμ; rfl
      refine ⟨by rw [hmk, r1]; exact pk_us, Or.inr ⟨r3, e1.trans t2, e2.trans t3, n, t4, (hT' o q2 q3).1.trans t5, ?_, Or.inr (Or.inr ⟨r1, r2, r4, x4, ⟨b, p, w3, by rw [hms]; exact pk_us, hp, by rw [hmk, pk_un hpo]; exact hkp, (hT' p hpb.2.1 hpb.2.2).1.trans hlp, fun k hk2 => ?_⟩, w4⟩)⟩⟩
      · rw [r2, wo _ (by omega) (by omega) (by omega)]
        rw [x2] at t6
        exact t6
      · rw [hu p hpb.2.1 hpb.2.2, hu o q2 q3]
        exact hup k hk2
    · have e1 : m_limit μ' = m_limit μ := by subst hμ; rfl
      rw [hE.1, e1]
      exact hS.2.2.2.2.2.2.2.1
    · rw [hmd]
      exact hS.2.2.2.2.2.2.2.2
  · omega
/-- what goOver leaves -/
def Ov (σ : oS) (μ : mS) (M o : Nat) (σ' : oS) (μ' : mS) (M' : Nat) : Prop := M ≤ M' ∧ M' ≤ M + 1 ∧ o_lim σ' = o_lim σ ∧ m_root μ' = m_root μ ∧ m_thrown μ' = m_thrown μ ∧ (∀ p, p < M → m_length μ' p = m_length μ p) ∧ ∀ p, p < M → m_kind μ' p = m_kind μ p ∨ (p = o ∧ m_kind μ' p = nI 4)
theorem P_goOver {F : Nat} {σ : oS} {μ : mS} {os nl : List Nat} {U M q a o : Nat} {R : Nat → Nat → Prop} (hF : 1048600 < F) (hM : M + 1 ≤ 4000) (hS : Sim σ μ os U nl M R) (hT : Tx σ μ R q a o) :
    ∃ σ' μ' os' U' nl' M' R', Sim σ' μ' os' U' nl' M' R' ∧ Ov σ μ M o σ' μ' M' ∧
      ((∃ C N, fX0_goOver F σ (nI q) = some (.inr (), σ', C, N) ∧ fX1_goOver F μ (nI o) = some (1, μ') ∧ C ≤ 1 ∧ N + pot σ ≤ pot σ' ∧ m_kind μ' o ≠ nI 3) ∨
       (fX0_goOver F σ (nI q) = some (.inl 2, σ', 1, 6) ∧ fX1_goOver F μ (nI o) = some (0, μ') ∧ pot σ' = pot σ ∧ ∃ μ'', fX1_goOver F μ' (nI o) = some (0, μ'') ∧ Sim σ' μ'' os' U' nl' M' R')) := by
  obtain ⟨hq, e1, e2, hR, ht⟩ := id hT
  obtain ⟨q1, q2, q3, q4, q5, q6, q7, q8, q9⟩ := Sim_ob hS hR
  obtain ⟨l1, l2, l3, l4⟩ := ObT_len ht
  have hin : vp_in (nI o) 4096 := vp_in_nI (by omega) (by omega)
  have hcl : (nI o).toNatClampNeg = o := nI_clamp (by omega)
  have h3 := okO_3 q5
  have hkd : fX0_kindAt F σ (nI a) = some (nI (kd (o_fw σ) a), σ) := P_kindAt (by have := hS.rd.2.1; omega) hS.rd.2.2.1 q5.1
  have hev : fX0_goOver F σ (nI q) = cIf (nI (kd (o_fw σ) a) = 3) (bndX (fX0_makeFlat F σ 2 (nI (mlen μ o))) (fun a8 σ8 => ck (vp_in (nI q) 24) (nmd (o_fr σ8 q) (fun x10 => bnp (fX0_copyAllUnits F σ8 x10 a8) (fun σ11 => bnd (fX0_sizeAt F σ11 x10) (fun r13 σ12 => bnp (fX0_shapeOf F 4 2 0 r13) (fun r14 => ck (vp_in (x10 + 0) (o_lw σ12)) (nmd (o_s_fw σ12 (upd (o_fw σ12) (x10 + 0).toNatClampNeg r14)) (fun σ16 => ck (vp_in (x10 + 3) (o_lw σ16)) (nmd (o_s_fw σ16 (upd (o_fw σ16) (x10 + 3).toNatClampNeg a8)) (fun σ18 => ck (vp_in (x10 + 4) (o_lw σ18)) (nmd (o_s_fw σ18 (upd (o_fw σ18) (x10 + 4).toNatClampNeg (-1))) (fun σ20 => some (.inr (), σ20, 0, 0)))))))))))))) (some (.inr (), σ, 0, 0)) := by
    unfold fX0_goOver
    rw [ck_t (in24 hq), cl24 hq, nmd_v, e1, hkd, bnd_s, P_lengthIn hS.rd hT, bnd_s]
  have hem : ∀ ν : mS, m_kind ν o = m_kind μ o → m_length ν o = m_length μ o → fX1_goOver F ν (nI o) = cIf (nI (kd (o_fw σ) a) = 3) (bnd (fX1_make F ν 2 (nI (mlen μ o)) 1) (fun r7 σ6 => cIf (r7 = 0) (some (0, σ6)) (ck (vp_in r7 4096) (nmd (m_s_a σ6 (upd (m_a σ6) r7.toNatClampNeg (nI o))) (fun σ10 => ck (vp_in r7 4096) (nmd (m_s_b σ10 (upd (m_b σ10) r7.toNatClampNeg 0)) (fun σ12 => ck (vp_in (nI o) 4096) (nmd (m_s_kind σ12 (upd (m_kind σ12) o 4)) (fun σ14 => ck (vp_in (nI o) 4096) (nmd (m_s_spread σ14 (upd (m_spread σ14) o r7)) (fun σ16 => some (1, σ16)))))))))))) (some (1, ν)) := fun ν n1 n2 => by
    unfold fX1_goOver
    rw [ck_t hin, hcl, nmd_v, n1, q9.1, ck_t hin, nmd_v, n2, l1]
  rw [hev, hem μ rfl rfl]
  by_cases hk : kd (o_fw σ) a = 3
  · rw [cIf_t (show nI (kd (o_fw σ) a) = 3 by rw [hk]; rfl), cIf_t (show nI (kd (o_fw σ) a) = 3 by rw [hk]; rfl)]
    have hko : m_kind μ o = nI 3 := by rw [q9.1, hk]
    have h24 : 24 < mlen μ o := by
      obtain ⟨t1, t2, t3, n, t4, t5, t6, ht⟩ := ht
      have e : mlen μ o = n := by unfold mlen; rw [t5, nI_clamp (by omega)]
      rcases ht with ⟨e | e, -⟩ | ⟨-, -, -, x4, -⟩ | ⟨e, -⟩ <;> omega
    obtain ⟨L, hL, hmL, hLb⟩ := Sim_L hS
    obtain ⟨hMI1, hMI2, hob, hk0, -⟩ := id hS.2.1
    obtain ⟨σ1, os1, U1, nl1, R1, hS1, hl1, hp1, hmk⟩ := P_makeFlat hF hS (k := 2) (n := mlen μ o) (by omega) l2 rfl hL hLb
    obtain ⟨m1, m2⟩ := P_mmake (k := 2) (n := mlen μ o) (h := 1) (s := 4 + (mlen μ o + 1) / 2) hF hS (AgB.rf _ M) hob rfl hmL hLb (by omega) (fun μ' y1 y2 _ _ _ => words_flat (by omega) (by omega) (Or.inl rfl) y1 y2)
    rcases hmk with ⟨hf, c1⟩ | ⟨hf, σ2, C, N, c1, hX, c3, c4, c5, c6⟩
    · obtain ⟨μ2, d1, hFm⟩ := m2 hf
      have d1' : fX1_make F μ 2 (nI (mlen μ o)) 1 = some (0, μ2) := d1
      have c1' : fX0_makeFlat F σ 2 (nI (mlen μ o)) = some (.inl 2, σ1, 1, 6) := c1
      rw [c1', d1', bndX_l, bnd_s, cIf_t rfl]
      have hS2 := Sim_MkF hS hFm
      obtain ⟨f1, f2, f3, f4, f5, f6, f7, f8, f9, f10, f11, f12, f13, f14, f15, f16, f17, f18⟩ := id hFm
      have gk : ∀ p, p < M → m_kind μ2 p = m_kind μ p := fun p hp => by rw [f5]; exact pk_un (by omega)
      have gl : ∀ p, p < M → m_length μ2 p = m_length μ p := fun p hp => by rw [f13]; exact pk_un (by omega)
      obtain ⟨-, m4⟩ := P_mmake (k := 2) (n := mlen μ o) (h := 1) (s := 4 + (mlen μ o + 1) / 2) hF hS2 (AgB.rf _ M) f4 rfl (f2.trans hmL) hLb (by omega) (fun μ' y1 y2 _ _ _ => words_flat (by omega) (by omega) (Or.inl rfl) y1 y2)
      obtain ⟨μ3, d3, hFm3⟩ := m4 hf
      have d3' : fX1_make F μ2 2 (nI (mlen μ o)) 1 = some (0, μ3) := d3
      refine ⟨σ1, μ2, os1, U1, nl1, M, R1, Sim_MkF hS1 hFm, ⟨Nat.le_refl _, by omega, hl1.trans hL.symm, f3, f1, gl, fun p hp => Or.inl (gk p hp)⟩, Or.inr ⟨rfl, rfl, hp1, μ3, ?_, Sim_MkF (Sim_MkF hS1 hFm) hFm3⟩⟩
      rw [hem μ2 (gk o q3) (gl o q3), cIf_t (show nI (kd (o_fw σ) a) = 3 by rw [hk]; rfl), d3', bnd_s, cIf_t rfl]
    · obtain ⟨μ2, d1, f1, f2, f3, f4, f5, f6, f7, f8, f9, f10, f11, f12, f13, f14, f15, f16, f17, f18⟩ := m1 hf
      have d1' : fX1_make F μ 2 (nI (mlen μ o)) 1 = some (nI M, μ2) := d1
      have c1' : fX0_makeFlat F σ 2 (nI (mlen μ o)) = some (.inr (nI U1), σ2, C, N) := c1
      have hRd := hX.rd hS1
      have hk1 : ¬ m_kind μ o = 1 := by rw [hko]; decide
      obtain ⟨b, hb⟩ := hRd.tx (q := q) hq e2 q2 q3 hk1
      obtain ⟨-, hb1, -, hRb, hbT⟩ := id hb
      have hls := hX.2.2.2.2.1
      have hlw := hX.2.2.2.2.2.1 L hl1 hLb
      obtain ⟨g, y, g1, g2, g3⟩ := P_copyAll (F := F) (W := (mlen μ o + 1) / 2) (by omega) hRd hRb (by omega) l2 (by omega) (by omega) (fun j hj => un_fresh c4 (by omega))
      generalize hσ3 : o_s_fw (o_s_fp σ2 y) g = σ3 at g1
      have hX3 : Ext σ1 σ3 U1 2 0 0 (4 + (mlen μ o + 1) / 2) := by
        subst hσ3
        exact (Ext.fp (x := y) hX).fill (fun x hx => g2 x (by omega))
      have hg3 : o_fw σ3 = g := by subst hσ3; rfl
      generalize hμ3 : m_s_b (m_s_a μ2 (upd (m_a μ2) M (nI o))) (upd (m_b (m_s_a μ2 (upd (m_a μ2) M (nI o)))) M 0) = μ3
      have hTx : TxM μ μ3 M 2 (mlen μ o) 1 := by
        subst hμ3
        exact ⟨f2, f3, f4, f5, f6, f7, f8, f9, f10, f11, f12, f13, f14, f18, fun o ho2 => ⟨(pk_un (by omega)).trans (congrFun f15 o), (pk_un (by omega)).trans (congrFun f16 o), congrFun f17 o⟩⟩
      have ha3 : m_a μ3 M = nI o := by subst hμ3; exact pk_us
      have hb3 : m_b μ3 M = nI 0 := by subst hμ3; exact pk_us
      have ht3 : m_thrown μ3 = m_thrown μ := by subst hμ3; exact f1
      have hmo : m_madeOf μ3 M = 1 := by subst hμ3; exact (congrFun f14 M).trans pk_us
      have hkM : m_kind μ3 M = 2 := by subst hμ3; exact (congrFun f5 M).trans pk_us
      have hMI' := hTx.mi hS1.2.1 hM l2 (Or.inr (Or.inl ⟨rfl, o, 0, ha3, hb3, q2, q3, by omega⟩))
      have hag := hTx.agb
      have huM : ∀ k, uo μ3 M k = uo μ3 o k := fun k => by
        have h := uo_1 (k := k) hMI'.2.1 hMI'.mt hMI1 (by omega) hmo ha3 hb3 q2 q3 (by omega)
        rw [Nat.add_zero] at h
        exact h
      have huo : ∀ k, uo μ3 o k = uo μ o k := fun k => hag.uoE hS1.2.1.2.1 hS1.2.1.mt q2 q3 k
      have hS3 := Sim_txt hS1 hX3 l2 rfl (by rw [hg3]; exact (g2 _ (by omega)).trans c3) (fun i hi => by
        rw [hg3, huM, huo, g3 i, if_pos hi]) (fun ho2 => by
        rw [hg3, g3, if_neg (by omega)]
        exact un_fresh c4 (by omega)) hTx hMI'
      have hk3 : m_kind μ3 o = nI 3 := by rw [((hag o q2 q3).1).1, hko]
      have hob3 := Sim_ob hS3 (Or.inl hRb : RA R1 U1 M b o)
      obtain ⟨p1, p2, p3, p4, p5, p6, p7, p8, p9⟩ := hob3
      have hkb : kd (o_fw σ3) b = 3 := nI_inj (by have := kd16 (o_fw σ3) b; omega) (by omega) (p9.1.symm.trans hk3)
      have hbT3 := ObR_T p9 (by omega)
      have hszb : sz (o_fw σ3) b = 6 := by
        obtain ⟨t1, t2, t3, n, t4, t5, t6, ht⟩ := hbT3
        rcases ht with ⟨e | e, -⟩ | ⟨-, -, x3, -⟩ | ⟨e, -⟩ <;> omega
      have hr3 := hS3.rd
      have r2 := hr3.2.1
      have r3 := hr3.2.2.1
      have hS4 := Sim_spread (n := mlen μ o) hS3 (Or.inl hRb) hbT3 hkb (b := U1) (p := M) (Or.inr ⟨rfl, rfl⟩) hkM l2 (by rw [(hag.txt o q2 q3).1]; exact l1) (hTx.len l2).1 (fun k _ => huM k) rfl rfl
      refine ⟨_, _, _, _, _, M + 1, _, hS4, ⟨by omega, Nat.le_refl _, ?_, ?_, ?_, fun p hp => ?_, fun p hp => ?_⟩, Or.inl ⟨C + 0, N + 0, ?_, ?_, by omega, ?_, ?_⟩⟩
      · exact (hX3.1.1.trans hl1).trans hL.symm
      · exact hTx.2.1
      · exact ht3
      · show m_length μ3 p = _
        rw [hTx.2.2.2.2.2.2.2.2.2.2.2.1]
        exact pk_un (by omega)
      · show upd (m_kind μ3) o 4 p = _ ∨ (p = o ∧ upd (m_kind μ3) o 4 p = _)
        by_cases ep : p = o
        · rw [ep, pk_us]; exact Or.inr ⟨rfl, rfl⟩
        · rw [pk_un ep, hTx.2.2.2.1]
          exact Or.inl (pk_un (by omega))
      · rw [c1']
        refine bndX_k ?_
        rw [ck_t (in24 hq), nmd_v, hb1, g1, bnp_s, P_sizeAt (by omega) r3 p5.1, bnd_s, hszb]
        have hsh : fX0_shapeOf F 4 2 0 (nI 6) = some (nI (hdr 4 2 0 6)) := P_shapeOf (k := 4) (l := 2) (v := 0) (s := 6) (by omega) (by omega) (by omega) (by omega)
        rw [hsh, bnp_s, nI_p0, ck_t (vp_in_nI (by omega) (by omega)), nI_clamp (n := b) (by omega), nmd_v, nI_p3]
        show ck (vp_in (nI (b + 3)) (o_lw σ3)) _ = _
        rw [ck_t (vp_in_nI (by omega) (by omega)), nI_clamp (n := b + 3) (by omega), nmd_v, nI_p4]
        show ck (vp_in (nI (b + 4)) (o_lw σ3)) _ = _
        rw [ck_t (vp_in_nI (by omega) (by omega)), nI_clamp (n := b + 4) (by omega), nmd_v]
        rfl
      · rw [d1', bnd_s, cIf_f (nI_ne0 (by omega) (by omega)), ck_t (vp_in_nI (by omega) (by omega)), nI_clamp (n := M) (by omega), nmd_v, ck_t (vp_in_nI (by omega) (by omega)), nmd_v, hμ3, ck_t hin, nmd_v, ck_t hin, nmd_v, mgs_spread_kind]
      · have : pot σ3 = pot σ2 := by subst hσ3; rfl
        show N + 0 + pot σ ≤ pot σ3
        omega
      · show upd (m_kind μ3) o 4 o ≠ nI 3
        rw [pk_us]
        decide
  · have hk3 : ¬ nI (kd (o_fw σ) a) = 3 := fun q => hk (nI_inj (by have := kd16 (o_fw σ) a; omega) (by omega) (q.trans nI3l))
    rw [cIf_f hk3, cIf_f hk3]
    exact ⟨σ, μ, os, U, nl, M, R, hS, ⟨Nat.le_refl _, by omega, rfl, rfl, rfl, fun _ _ => rfl, fun _ _ => Or.inl rfl⟩, Or.inl ⟨0, 0, rfl, rfl, by omega, by omega, by rw [q9.1]; exact hk3⟩⟩
