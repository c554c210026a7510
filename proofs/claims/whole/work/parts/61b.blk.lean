/-! the calls on blocks: slots -/
theorem one_ne0 : ¬ (1 : Int32) = 0 := by decide
def Bk (σ : oS) (μ : mS) (R : Nat → Nat → Prop) (q a o : Nat) : Prop := q < 24 ∧ o_fr σ q = nI a ∧ m_root μ q = nI o ∧ R a o ∧ ObB (o_fw σ) μ R a o
theorem ObR_B {f : Nat → Int32} {μ : mS} {R : Nat → Nat → Prop} {a o : Nat} (h : ObR f μ R a o) (hk : kd f a = 1) : ObB f μ R a o := by
  obtain ⟨-, h | ⟨-, -, -, n, -, -, -, h⟩⟩ := h
  · exact h
  · rcases h with ⟨e | e, -⟩ | ⟨e, -⟩ | ⟨e, -⟩ <;> omega
theorem P_blk {F : Nat} {σ : oS} {μ : mS} {os nl : List Nat} {U M : Nat} {R : Nat → Nat → Prop} (hS : Sim σ μ os U nl M R) (p1 : Int32) : (fX0_needBlock F σ p1 = some (.inl 1, σ, 1, 6) ∧ fX1_isBlock F μ p1 = some (0, μ)) ∨ ∃ q a o, p1 = nI q ∧ Bk σ μ R q a o ∧ fX0_needBlock F σ p1 = some (.inr (nI a), σ, 0, 0) ∧ fX1_isBlock F μ p1 = some (1, μ) := by
  unfold fX0_needBlock fX1_isBlock
  rcases root_cs p1 with ⟨q, hq, rfl⟩ | hn
  · rw [P_needRoot_t hq, P_isRoot_t hq, bndN_r, bnp_s, cIf_f one_ne0]
    simp only [nmd_v, ck_t (in24 hq), cl24 hq]
    rcases Sim_at hS hq with ⟨e1, e2⟩ | ⟨a, o, e1, e2, hR⟩
    · refine Or.inl ?_
      rw [e1, P_kindAt0, bnd_s, cIf_f (by decide), e2, ck_t (vp_in_nI (by omega) (by omega)), nI_clamp (by omega), hS.2.1.2.2.2.1, cIf_f (by decide)]
      exact ⟨rfl, rfl⟩
    · obtain ⟨q1, q2, q3, q4, q5, q6, q7, q8, q9⟩ := Sim_ob hS hR
      obtain ⟨k1, k2⟩ := Sim_kd (F := F) hS hR
      rw [e1, k1, bnd_s, e2, ck_t (vp_in_nI (by omega) (by omega)), nI_clamp (by omega), k2]
      by_cases hk : kd (o_fw σ) a = 1
      · refine Or.inr ⟨q, a, o, rfl, ⟨hq, e1, e2, hR, ObR_B q9 hk⟩, ?_⟩
        rw [hk, cIf_t (show nI 1 = 1 from rfl), cIf_t (show nI 1 = 1 from rfl)]
        exact ⟨rfl, rfl⟩
      · have hne : ¬ nI (kd (o_fw σ) a) = 1 := fun h => hk (nI_inj (by have := kd16 (o_fw σ) a; omega) (by omega) (h.trans nI1l))
        refine Or.inl ?_
        rw [cIf_f hne, cIf_f hne]
        exact ⟨rfl, rfl⟩
  · refine Or.inl ?_
    rw [P_needRoot_f hn, P_isRoot_f hn, bndN_l, bnp_s, cIf_t rfl]
    exact ⟨rfl, rfl⟩
section SL
variable {F : Nat} {σ : oS} {μ : mS} {os nl : List Nat} {U M : Nat} {R : Nat → Nat → Prop}
theorem P_link (hS : Sim σ μ os U nl M R) (p1 p2 : Int32) : (fX0_linkSlot F σ p1 p2 = some (.inl 1, σ, 1, 6) ∧ fX1_hasLink F μ p1 p2 = some (0, μ)) ∨ ∃ q a o i, p1 = nI q ∧ p2 = nI i ∧ Bk σ μ R q a o ∧ i < lk (o_fw σ) a ∧ fX0_linkSlot F σ p1 p2 = some (.inr (nI (a + 3 + i)), σ, 0, 0) ∧ fX1_hasLink F μ p1 p2 = some (1, μ) := by
  unfold fX0_linkSlot fX1_hasLink
  rcases P_blk (F := F) hS p1 with ⟨h1, h2⟩ | ⟨q, a, o, rfl, hB, h1, h2⟩
  · refine Or.inl ?_
    rw [h1, h2, bndX_l, bnd_s, cIf_t rfl]
    exact ⟨rfl, rfl⟩
  · obtain ⟨hq, e1, e2, hR, hb⟩ := id hB
    obtain ⟨q1, q2, q3, q4, q5, q6, q7, q8, q9⟩ := Sim_ob hS hR
    obtain ⟨b1, b2, b3, b4, b5, b6, b7, b8, b9, b10⟩ := hb
    have h3 := okO_3 q5
    rw [h1, h2, bndX_r, bnd_s, cIf_f one_ne0, ck_t (in24 hq), cl24 hq, P_linksAt (by omega) q8 q5.1]
    simp only [nmd_v]
    rw [e2, ck_t (vp_in_nI (by omega) (by omega)), nI_clamp (by omega), b5, bnd_s]
    rcases pk_ix p2 (n := lk (o_fw σ) a) (by omega) with hh | hh | ⟨i, hi, rfl⟩
    · refine Or.inl ?_
      rw [cIf_t hh, P_in_f (Or.inl hh) (by omega), bnp_s, cIf_t rfl]
      exact ⟨rfl, rfl⟩
    · refine Or.inl ?_
      rw [P_in_f (Or.inr hh) (by omega), bnp_s, cIf_t rfl, cIf_f (Int32.not_lt.mpr hh)]
      refine ⟨?_, rfl⟩
      by_cases h0 : p2 < 0
      · rw [cIf_t h0]
      · rw [cIf_f h0]
    · refine Or.inr ⟨q, a, o, i, rfl, rfl, hB, hi, ?_⟩
      rw [cIf_f (nI_pos (by omega)), cIf_t (nI_lt hi (by omega)), nI_p3, nI_add, P_in_t hi (by omega), bnp_s, cIf_f one_ne0]
      exact ⟨rfl, rfl⟩
theorem P_val (hS : Sim σ μ os U nl M R) (p1 p2 : Int32) : (fX0_valueSlot F σ p1 p2 = some (.inl 1, σ, 1, 6) ∧ fX1_hasValue F μ p1 p2 = some (0, μ)) ∨ ∃ q a o i, p1 = nI q ∧ p2 = nI i ∧ Bk σ μ R q a o ∧ i < vl (o_fw σ) a ∧ fX0_valueSlot F σ p1 p2 = some (.inr (nI (a + 3 + lk (o_fw σ) a + 2 * i)), σ, 0, 0) ∧ fX1_hasValue F μ p1 p2 = some (1, μ) := by
  unfold fX0_valueSlot fX1_hasValue
  rcases P_blk (F := F) hS p1 with ⟨h1, h2⟩ | ⟨q, a, o, rfl, hB, h1, h2⟩
  · refine Or.inl ?_
    rw [h1, h2, bndX_l, bnd_s, cIf_t rfl]
    exact ⟨rfl, rfl⟩
  · obtain ⟨hq, e1, e2, hR, hb⟩ := id hB
    obtain ⟨q1, q2, q3, q4, q5, q6, q7, q8, q9⟩ := Sim_ob hS hR
    obtain ⟨b1, b2, b3, b4, b5, b6, b7, b8, b9, b10⟩ := hb
    have h3 := okO_3 q5
    rw [h1, h2, bndX_r, bnd_s, cIf_f one_ne0, ck_t (in24 hq), cl24 hq, P_valuesAt (by omega) q8 q5.1]
    simp only [nmd_v]
    rw [e2, ck_t (vp_in_nI (by omega) (by omega)), nI_clamp (by omega), b6, bnd_s, P_linksAt (by omega) q8 q5.1, bnd_s]
    rcases pk_ix p2 (n := vl (o_fw σ) a) (by omega) with hh | hh | ⟨i, hi, rfl⟩
    · refine Or.inl ?_
      rw [cIf_t hh, P_in_f (Or.inl hh) (by omega), bnp_s, cIf_t rfl]
      exact ⟨rfl, rfl⟩
    · refine Or.inl ?_
      rw [P_in_f (Or.inr hh) (by omega), bnp_s, cIf_t rfl, cIf_f (Int32.not_lt.mpr hh)]
      refine ⟨?_, rfl⟩
      by_cases h0 : p2 < 0
      · rw [cIf_t h0]
      · rw [cIf_f h0]
    · refine Or.inr ⟨q, a, o, i, rfl, rfl, hB, hi, ?_⟩
      rw [cIf_f (nI_pos (by omega)), cIf_t (nI_lt hi (by omega)), nI_p3, nI_2m, nI_add, nI_add, P_in_t hi (by omega), bnp_s, cIf_f one_ne0]
      exact ⟨rfl, rfl⟩
theorem P_pln (hS : Sim σ μ os U nl M R) (p1 p2 : Int32) : (fX0_plainSlot F σ p1 p2 = some (.inl 1, σ, 1, 6) ∧ fX1_hasWord F μ p1 p2 = some (0, μ)) ∨ ∃ q a o i, p1 = nI q ∧ p2 = nI i ∧ Bk σ μ R q a o ∧ 3 + lk (o_fw σ) a + 2 * vl (o_fw σ) a + i < sz (o_fw σ) a ∧ fX0_plainSlot F σ p1 p2 = some (.inr (nI (a + (3 + lk (o_fw σ) a + 2 * vl (o_fw σ) a + i))), σ, 0, 0) ∧ fX1_hasWord F μ p1 p2 = some (1, μ) := by
  unfold fX0_plainSlot fX1_hasWord
  rcases P_blk (F := F) hS p1 with ⟨h1, h2⟩ | ⟨q, a, o, rfl, hB, h1, h2⟩
  · refine Or.inl ?_
    rw [h1, h2, bndX_l, bnd_s, cIf_t rfl]
    exact ⟨rfl, rfl⟩
  · obtain ⟨hq, e1, e2, hR, hb⟩ := id hB
    obtain ⟨q1, q2, q3, q4, q5, q6, q7, q8, q9⟩ := Sim_ob hS hR
    obtain ⟨b1, b2, b3, b4, b5, b6, b7, b8, b9, b10⟩ := hb
    have h3 := okO_3 q5
    have hsz := q5.2
    rw [h1, h2, bndX_r, bnd_s, cIf_f one_ne0, ck_t (in24 hq), cl24 hq, P_linksAt (by omega) q8 q5.1, bnd_s, P_valuesAt (by omega) q8 q5.1, bnd_s, P_sizeAt (by omega) q8 q5.1]
    simp only [nmd_v]
    rw [e2, ck_t (vp_in_nI (by omega) (by omega)), nI_clamp (by omega), b7, bnd_s, nI3l, nI_2m, nI_add, nI_add, pk_sub hsz]
    rcases pk_ix p2 (n := sz (o_fw σ) a - (3 + lk (o_fw σ) a + 2 * vl (o_fw σ) a)) (by omega) with hh | hh | ⟨i, hi, rfl⟩
    · refine Or.inl ?_
      rw [cIf_t hh, P_in_f (Or.inl hh) (by omega), bnp_s, cIf_t rfl]
      exact ⟨rfl, rfl⟩
    · refine Or.inl ?_
      rw [P_in_f (Or.inr hh) (by omega), bnp_s, cIf_t rfl, cIf_f (Int32.not_lt.mpr hh)]
      refine ⟨?_, rfl⟩
      by_cases h0 : p2 < 0
      · rw [cIf_t h0]
      · rw [cIf_f h0]
    · refine Or.inr ⟨q, a, o, i, rfl, rfl, hB, by omega, ?_⟩
      rw [cIf_f (nI_pos (by omega)), cIf_t (nI_lt hi (by omega)), nI_add, nI_add, P_in_t hi (by omega), bnp_s, cIf_f one_ne0, Nat.add_assoc a]
      exact ⟨rfl, rfl⟩
/-- a block's words are put -/
theorem Sim_wr {σ' : oS} {μ' : mS} {q a0 o0 : Nat} (hS : Sim σ μ os U nl M R) (hB : Bk σ μ R q a0 o0) (hE : EqO σ' σ) (hus : o_us σ' = o_us σ) (hlw : o_lw σ' = o_lw σ) (hmd : o_md σ' = o_md σ) (hout : ∀ x, x < a0 + 3 ∨ a0 + sz (o_fw σ) a0 ≤ x → o_fw σ' x = o_fw σ x) (hpv : ∀ x, chd (o_fw σ') a0 x → x = -1 ∨ ∃ b ∈ os, x = nI b)
    (hA : ∀ o, 1 ≤ o → o < M → o ≠ o0 → AgO μ μ' o) (hT : ∀ o, 1 ≤ o → o < M → m_length μ' o = m_length μ o ∧ m_madeOf μ' o = m_madeOf μ o ∧ m_a μ' o = m_a μ o ∧ m_b μ' o = m_b μ o ∧ m_units μ' o = m_units μ o) (hk : m_kind μ' = m_kind μ) (hobj : m_objects μ' = m_objects μ) (hTL : TL μ' M) (hroot : m_root μ' = m_root μ) (hlim : m_limit μ' = m_limit μ) (hob : ObB (o_fw σ') μ' R a0 o0) : Sim σ' μ' os U nl M R := by
  obtain ⟨hq, e1, e2, hR, hb⟩ := id hB
  obtain ⟨q1, q2, q3, q4, q5, q6, q7, q8, q9⟩ := Sim_ob hS hR
  have h3 := okO_3 q5
  have e0 : o_fw σ' a0 = o_fw σ a0 := hout a0 (Or.inl (by omega))
  have hC := hS.1.1.1
  refine Sim_one hS (OI_one hS.1 q1 hE hus hlw (by rw [hb.1]; decide) (by rw [kd_congr e0, hb.1]; decide) (fun x hx => hout x (by omega)) ((hout _ (Or.inl (by omega))).trans (hS.1.2.1.2 a0 q1)) (okO_congr e0 q5) (sz_congr e0) hpv) hR (fun a o hRa hne i hi _ => ?_) hA hT (fun h => by rw [hk]; exact h) (hobj.trans hS.2.1.2.2.1) (by rw [hk]; exact hS.2.1.2.2.2.1) hTL (fun r hr => by rw [hroot, hE.2.1]; exact hS.2.2.2.2.2.1 r hr) ⟨by rw [hk, kd_congr e0]; exact q9.1, Or.inl hob⟩ (by rw [hlim, hE.1]; exact hS.2.2.2.2.2.2.2.1) (by rw [hmd]; exact hS.2.2.2.2.2.2.2.2)
  have ha := (Sim_ob hS hRa).1
  refine hout _ ?_
  rcases Nat.lt_or_gt_of_ne hne with hl | hl
  · have := Ch_sep os hC ha q1 hl; omega
  · have := Ch_sep os hC q1 ha hl; omega
theorem Sim_link {q a o i : Nat} {x y : Int32} (hS : Sim σ μ os U nl M R) (hB : Bk σ μ R q a o) (hi : i < lk (o_fw σ) a) (hx : PtR R x y) : Sim (o_s_fw σ (upd (o_fw σ) (a + 3 + i) x)) (m_s_link μ (upd (m_link μ) (8 * o + i) y)) os U nl M R := by
  obtain ⟨hq, e1, e2, hR, hb⟩ := id hB
  obtain ⟨q1, q2, q3, q4, q5, q6, q7, q8, q9⟩ := Sim_ob hS hR
  obtain ⟨b1, b2, b3, b4, b5, b6, b7, b8, b9, b10⟩ := hb
  have h3 := okO_3 q5
  have hsz := q5.2
  have e0 : upd (o_fw σ) (a + 3 + i) x a = o_fw σ a := pk_un (by omega)
  obtain ⟨t1, t2, t3⟩ := hS.2.1.tl
  refine Sim_wr (q := q) (a0 := a) (o0 := o) hS hB (EqO.rf σ) rfl rfl rfl (fun z hz => pk_un (by omega)) (fun z hz => ?_) (fun p p1 p2 hne => ⟨rfl, rfl, rfl, rfl, rfl, rfl, rfl, rfl, rfl, fun j hj => ⟨pk_un (by omega), rfl, rfl⟩, fun _ _ => rfl⟩) (fun p _ _ => ⟨rfl, rfl, rfl, rfl, rfl⟩) rfl rfl ⟨t1, fun j hj => ⟨(pk_un (by omega)).trans (t2 j hj).1, (t2 j hj).2⟩, t3⟩ rfl rfl ?_
  · have hz' : chd (upd (o_fw σ) (a + 3 + i) x) a z := hz
    unfold chd at hz'
    rw [lk_congr e0, vl_congr e0] at hz'
    rcases hz' with ⟨j, hj, ez⟩ | ⟨j, hj, ez1, ez⟩
    · by_cases ej : j = i
      · subst ej
        rw [pk_us] at ez
        rw [← ez]
        exact hx.os (fun a o h => (hS.2.2.1 a o h).1)
      · rw [pk_un (by omega)] at ez
        exact hS.1.1.2.2.2.1 a q1 z (Or.inl ⟨j, hj, ez⟩)
    · rw [pk_un (by omega)] at ez ez1
      exact hS.1.1.2.2.2.1 a q1 z (Or.inr ⟨j, hj, ez1, ez⟩)
  · show ObB (upd (o_fw σ) (a + 3 + i) x) (m_s_link μ (upd (m_link μ) (8 * o + i) y)) R a o
    unfold ObB
    rw [kd_congr e0, lk_congr e0, vl_congr e0, sz_congr e0]
    refine ⟨b1, b2, b3, b4, b5, b6, b7, fun j hj => ?_, fun j hj => ?_, fun j hj => ?_, b10.2⟩
    · show PtR R (upd (o_fw σ) (a + 3 + i) x (a + 3 + j)) (upd (m_link μ) (8 * o + i) y (8 * o + j))
      by_cases ej : j = i
      · subst ej; rw [pk_us, pk_us]; exact hx
      · rw [pk_un (by omega), pk_un (by omega)]; exact b8 j hj
    · rw [pk_un (by omega), pk_un (by omega)]
      exact b9 j hj
    · rw [pk_un (by omega)]
      exact b10.1 j hj
/-- a value is put -/
theorem Sim_value {q a o i : Nat} {hi lo rf : Int32} {nb : Int64} {μ' : mS} (hS : Sim σ μ os U nl M R) (hB : Bk σ μ R q a o) (hv : i < vl (o_fw σ) a) (hx : VlR R hi lo rf nb)
    (hμ : SameM μ' (m_s_refers (m_s_number μ (vp_updL (m_number μ) (8 * o + i) nb)) (upd (m_refers μ) (8 * o + i) rf))) : Sim (o_s_fw (o_s_fw σ (upd (o_fw σ) (a + 3 + lk (o_fw σ) a + 2 * i) hi)) (upd (upd (o_fw σ) (a + 3 + lk (o_fw σ) a + 2 * i) hi) (a + 3 + lk (o_fw σ) a + 2 * i + 1) lo)) μ' os U nl M R := by
  refine Sim_same ?_ hμ
  obtain ⟨hq, e1, e2, hR, hb⟩ := id hB
  obtain ⟨q1, q2, q3, q4, q5, q6, q7, q8, q9⟩ := Sim_ob hS hR
  obtain ⟨b1, b2, b3, b4, b5, b6, b7, b8, b9, b10⟩ := hb
  have h3 := okO_3 q5
  have hsz := q5.2
  generalize hw : a + 3 + lk (o_fw σ) a + 2 * i = w
  have e0 : upd (upd (o_fw σ) w hi) (w + 1) lo a = o_fw σ a := (pk_un (by omega)).trans (pk_un (by omega))
  obtain ⟨t1, t2, t3⟩ := hS.2.1.tl
  refine Sim_wr (q := q) (a0 := a) (o0 := o) hS hB (EqO.rf σ) rfl rfl rfl (fun z hz => (pk_un (by omega)).trans (pk_un (by omega))) (fun z hz => ?_) (fun p p1 p2 hne => ⟨rfl, rfl, rfl, rfl, rfl, rfl, rfl, rfl, rfl, fun j hj => ⟨rfl, pk_un (by omega), pk_uLn (by omega)⟩, fun _ _ => rfl⟩) (fun p _ _ => ⟨rfl, rfl, rfl, rfl, rfl⟩) rfl rfl ⟨t1, fun j hj => ⟨(t2 j hj).1, (pk_un (by omega)).trans (t2 j hj).2.1, (pk_uLn (by omega)).trans (t2 j hj).2.2⟩, t3⟩ rfl rfl ?_
  · have hz' : chd (upd (upd (o_fw σ) w hi) (w + 1) lo) a z := hz
    unfold chd at hz'
    rw [lk_congr e0, vl_congr e0] at hz'
    rcases hz' with ⟨j, hj, ez⟩ | ⟨j, hj, ez1, ez⟩
    · rw [pk_un (by omega), pk_un (by omega)] at ez
      exact hS.1.1.2.2.2.1 a q1 z (Or.inl ⟨j, hj, ez⟩)
    · by_cases ej : j = i
      · subst ej
        rw [hw, pk_us] at ez
        rw [hw, pk_un (by omega), pk_us] at ez1
        rcases hx with ⟨-, b, p, x1, x2, x3⟩ | ⟨x1, -⟩
        · exact Or.inr ⟨b, (hS.2.2.1 b p x3).1, ez.symm.trans x1⟩
        · exact absurd ez1 x1
      · rw [pk_un (by omega), pk_un (by omega)] at ez ez1
        exact hS.1.1.2.2.2.1 a q1 z (Or.inr ⟨j, hj, ez1, ez⟩)
  · show ObB (upd (upd (o_fw σ) w hi) (w + 1) lo) (m_s_refers (m_s_number μ (vp_updL (m_number μ) (8 * o + i) nb)) (upd (m_refers μ) (8 * o + i) rf)) R a o
    unfold ObB
    rw [kd_congr e0, lk_congr e0, vl_congr e0, sz_congr e0]
    refine ⟨b1, b2, b3, b4, b5, b6, b7, fun j hj => ?_, fun j hj => ?_, fun j hj => ?_, b10.2⟩
    · rw [pk_un (by omega), pk_un (by omega)]
      exact b8 j hj
    · show VlR R _ _ (upd (m_refers μ) (8 * o + i) rf (8 * o + j)) (vp_updL (m_number μ) (8 * o + i) nb (8 * o + j))
      by_cases ej : j = i
      · subst ej
        rw [hw, pk_us, pk_us, pk_uLs, pk_un (by omega), pk_us]
        exact hx
      · rw [pk_un (by omega), pk_un (by omega), pk_un (by omega), pk_un (by omega), pk_un (by omega), pk_uLn (by omega)]
        exact b9 j hj
    · rw [pk_un (by omega), pk_un (by omega)]
      exact b10.1 j hj
theorem Sim_word {q a o i : Nat} {x : Int32} (hS : Sim σ μ os U nl M R) (hB : Bk σ μ R q a o) (hi : 3 + lk (o_fw σ) a + 2 * vl (o_fw σ) a + i < sz (o_fw σ) a) : Sim (o_s_fw σ (upd (o_fw σ) (a + (3 + lk (o_fw σ) a + 2 * vl (o_fw σ) a + i)) x)) (m_s_word μ (upd (m_word μ) (16 * o + i) x)) os U nl M R := by
  obtain ⟨hq, e1, e2, hR, hb⟩ := id hB
  obtain ⟨q1, q2, q3, q4, q5, q6, q7, q8, q9⟩ := Sim_ob hS hR
  obtain ⟨b1, b2, b3, b4, b5, b6, b7, b8, b9, b10⟩ := hb
  have h3 := okO_3 q5
  have hsz := q5.2
  generalize hw : a + (3 + lk (o_fw σ) a + 2 * vl (o_fw σ) a + i) = w
  have e0 : upd (o_fw σ) w x a = o_fw σ a := pk_un (by omega)
  obtain ⟨t1, t2, t3⟩ := hS.2.1.tl
  refine Sim_wr (q := q) (a0 := a) (o0 := o) hS hB (EqO.rf σ) rfl rfl rfl (fun z hz => pk_un (by omega)) (fun z hz => ?_) (fun p p1 p2 hne => ⟨rfl, rfl, rfl, rfl, rfl, rfl, rfl, rfl, rfl, fun j hj => ⟨rfl, rfl, rfl⟩, fun _ _ => pk_un (by omega)⟩) (fun p _ _ => ⟨rfl, rfl, rfl, rfl, rfl⟩) rfl rfl ⟨t1, t2, fun j hj => (pk_un (by omega)).trans (t3 j hj)⟩ rfl rfl ?_
  · have hz' : chd (upd (o_fw σ) w x) a z := hz
    unfold chd at hz'
    rw [lk_congr e0, vl_congr e0] at hz'
    rcases hz' with ⟨j, hj, ez⟩ | ⟨j, hj, ez1, ez⟩
    · rw [pk_un (by omega)] at ez
      exact hS.1.1.2.2.2.1 a q1 z (Or.inl ⟨j, hj, ez⟩)
    · rw [pk_un (by omega)] at ez ez1
      exact hS.1.1.2.2.2.1 a q1 z (Or.inr ⟨j, hj, ez1, ez⟩)
  · show ObB (upd (o_fw σ) w x) (m_s_word μ (upd (m_word μ) (16 * o + i) x)) R a o
    unfold ObB
    rw [kd_congr e0, lk_congr e0, vl_congr e0, sz_congr e0]
    refine ⟨b1, b2, b3, b4, b5, b6, b7, fun j hj => ?_, fun j hj => ?_, fun j hj => ?_, b10.2⟩
    · rw [pk_un (by omega)]
      exact b8 j hj
    · rw [pk_un (by omega), pk_un (by omega)]
      exact b9 j hj
    · show upd (o_fw σ) w x (a + (3 + lk (o_fw σ) a + 2 * vl (o_fw σ) a + j)) = upd (m_word μ) (16 * o + i) x (16 * o + j)
      by_cases ej : j = i
      · subst ej; rw [hw, pk_us, pk_us]
      · rw [pk_un (by omega), pk_un (by omega)]; exact b10.1 j hj
end SL
