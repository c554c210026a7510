/-! both sides make an object -/
noncomputable def Tb (σ : oS) (os : List Nat) (a : Nat) : Bool := @decide (Rch (o_fw σ) os (o_fr σ) a) (Classical.propDecidable _)
theorem Tb_iff {σ : oS} {os : List Nat} {a : Nat} : Tb σ os a = true ↔ Rch (o_fw σ) os (o_fr σ) a := by unfold Tb; exact @decide_eq_true_iff _ (Classical.propDecidable _)
/-- what is taken -/
noncomputable def Tk (σ : oS) (os : List Nat) : Nat := tot (sz (o_fw σ)) (Tb σ os) os 0
theorem Tk_eq {σ : oS} {os : List Nat} {mb : Nat → Bool} (h : ∀ a ∈ os, mb a = true ↔ Rch (o_fw σ) os (o_fr σ) a) : tot (sz (o_fw σ)) mb os 0 = Tk σ os := by
  unfold Tk
  refine tot_congr os 0 (fun b hb => ?_)
  have := (h b hb).trans Tb_iff.symm
  cases hm : mb b with
  | true => exact (this.mp hm).symm
  | false => cases ht : Tb σ os b with
    | true => rw [this.mpr ht] at hm; exact absurd hm (by decide)
    | false => rfl
theorem Sim.sr {σ : oS} {μ : mS} {os nl : List Nat} {U M : Nat} {R : Nat → Nat → Prop} (h : Sim σ μ os U nl M R) : Sr (o_fw σ) os U (o_fr σ) μ M R := by
  obtain ⟨hO, hMI, h1, h2, h3, h4, h5, h6⟩ := h
  exact ⟨hO.1.1, Nat.le_trans hO.1.2.1 hO.1.2.2.1, hMI.2.1, hMI.2.2.1, h1, h2, h3, h4, h5⟩
theorem Sim.mt {σ : oS} {μ : mS} {os nl : List Nat} {U M : Nat} {R : Nat → Nat → Prop} (h : Sim σ μ os U nl M R) : MT μ M := h.2.1.mt
def AgB (μ μ' : mS) (M : Nat) : Prop := ∀ o, 1 ≤ o → o < M → AgO μ μ' o ∧ m_units μ' o = m_units μ o
theorem AgB.uoE {μ μ' : mS} {M : Nat} (h : AgB μ μ' M) (hM : M ≤ 4000) (hT : MT μ M) {o : Nat} (h1 : 1 ≤ o) (h2 : o < M) (k : Nat) : uo μ' o k = uo μ o k :=
  uo_congr hM hT (fun p p1 p2 => by
    obtain ⟨⟨a1, a2, a3, a4, a5, a6, a7, a8, -⟩, a9⟩ := h p p1 p2
    exact ⟨a5, a6, a7, a8, a9⟩) _ o k h1 h2
theorem AgB.hP {μ μ' : mS} {M : Nat} (h : AgB μ μ' M) (hM : M ≤ 4000) (hT : MT μ M) {R : Nat → Nat → Prop} (hR : ∀ b p, R b p → 1 ≤ p ∧ p < M) : ∀ b p, R b p → (m_kind μ p = 2 → m_kind μ' p = 2) ∧ m_length μ' p = m_length μ p ∧ ∀ k, uo μ' p k = uo μ p k := fun b p hb => by
  obtain ⟨p1, p2⟩ := hR b p hb
  obtain ⟨⟨a1, a2, a3, a4, a5, -⟩, -⟩ := h p p1 p2
  exact ⟨fun q => a1.trans q, a5, fun k => h.uoE hM hT p1 p2 k⟩
theorem AgB.tr {μ μ1 μ2 : mS} {M : Nat} (h : AgB μ μ1 M) (g : AgB μ1 μ2 M) : AgB μ μ2 M := fun o o1 o2 => by
  obtain ⟨⟨a1, a2, a3, a4, a5, a6, a7, a8, a9, a10, a11⟩, a12⟩ := h o o1 o2
  obtain ⟨⟨b1, b2, b3, b4, b5, b6, b7, b8, b9, b10, b11⟩, b12⟩ := g o o1 o2
  exact ⟨⟨b1.trans a1, b2.trans a2, b3.trans a3, b4.trans a4, b5.trans a5, b6.trans a6, b7.trans a7, b8.trans a8, b9.trans a9, fun i hi => ⟨(b10 i hi).1.trans (a10 i hi).1, (b10 i hi).2.1.trans (a10 i hi).2.1, (b10 i hi).2.2.trans (a10 i hi).2.2⟩, fun i hi => (b11 i hi).trans (a11 i hi)⟩, b12.trans a12⟩
theorem AgB.rf (μ : mS) (M : Nat) : AgB μ μ M := fun o _ _ => ⟨⟨rfl, rfl, rfl, rfl, rfl, rfl, rfl, rfl, rfl, fun _ _ => ⟨rfl, rfl, rfl⟩, fun _ _ => rfl⟩, rfl⟩
theorem SameM.agb {μ μ' : mS} (h : SameM μ' μ) (M : Nat) : AgB μ μ' M := fun o _ _ => ⟨⟨by rw [h.kind], by rw [h.links], by rw [h.values], by rw [h.plain], by rw [h.length], by rw [h.madeOf], by rw [h.a], by rw [h.b], by rw [h.spread], fun i _ => ⟨by rw [h.link], by rw [h.refers], by rw [h.number]⟩, fun i _ => by rw [h.word]⟩, by rw [h.units]⟩
theorem Sr_ag {f : Nat → Int32} {os : List Nat} {U : Nat} {fr : Nat → Int32} {μ μ' : mS} {M : Nat} {R : Nat → Nat → Prop} (h : Sr f os U fr μ M R) (hT : MT μ M) (hA : AgB μ μ' M) (ho : m_objects μ' = nI M) (hr : m_root μ' = m_root μ) : Sr f os U fr μ' M R := by
  obtain ⟨hC, hU, hM, ho', h1, h2, h3, h4, h5⟩ := id h
  refine ⟨hC, hU, hM, ho, h1, h2, h3, fun q hq => by rw [hr]; exact h4 q hq, fun a o hR => ?_⟩
  obtain ⟨q1, q2, q3⟩ := h1 a o hR
  exact ObR_fr (Ch_mem os hC q1).2.2 (fun _ _ _ => rfl) (hA o q2 q3).1 (fun k => hA.uoE hM hT q2 q3 k) (hA.hP hM hT (fun b p hb => (h1 b p hb).2)) (fun _ _ q => q) (h5 a o hR)
theorem P_isStressed {F : Nat} {σ : oS} : ∃ b, fX0_isStressed F σ = some (b, σ) := by
  unfold fX0_isStressed
  by_cases h : o_st σ ≤ 0
  · exact ⟨0, cIf_t h⟩
  · rw [cIf_f h, ck_t (fun q => h (by rw [q]; decide))]
    by_cases h2 : (((o_md σ) + 1) - ((o_md σ) + 1) / (o_st σ) * (o_st σ)) = 0
    · exact ⟨1, cIf_t h2⟩
    · exact ⟨0, cIf_f h2⟩
/-- what the class's state is when an object was made -/
def Mk (σ1 σ2 : oS) (U k l v s : Nat) : Prop := EqO σ2 σ1 ∧ o_us σ2 = nI (U + s) ∧ o_md σ2 = o_md σ1 + 1 ∧ o_lw σ1 ≤ o_lw σ2 ∧ U + s ≤ o_lw σ2 ∧ (∀ L, o_lim σ1 = nI L → L ≤ 1048576 → o_lw σ2 ≤ L) ∧ NewO (o_fw σ1) (o_fw σ2) U k l v s
theorem pot_eq {σ σ' : oS} (h1 : o_lim σ' = o_lim σ) (h2 : o_lw σ' = o_lw σ) (h3 : o_ln σ' = o_ln σ) : pot σ' = pot σ := by unfold pot; rw [h1, h2, h3]
theorem P_make {F : Nat} {σ : oS} {μ : mS} {os nl : List Nat} {U M : Nat} {R : Nat → Nat → Prop} (hF : 1048600 < F) (hS : Sim σ μ os U nl M R) {k l v p s L : Nat} (hk : k < 16) (hl : l < 16) (hv : v < 16) (hs : s = 3 + l + 2 * v + p) (hs2 : s < 4096) (hL : o_lim σ = nI L) (hLb : L ≤ 1048576) :
    ∃ σ1 os1 U1 nl1 R1, Sim σ1 μ os1 U1 nl1 M R1 ∧ o_lim σ1 = nI L ∧ pot σ1 = pot σ ∧
      ((L < Tk σ os + s ∧ fX0_make F σ (nI k) (nI l) (nI v) (nI p) = some (.inl 2, σ1, 1, 6)) ∨
       (Tk σ os + s ≤ L ∧ ∃ σ2 C N, fX0_make F σ (nI k) (nI l) (nI v) (nI p) = some (.inr (nI U1), σ2, C, N) ∧ Mk σ1 σ2 U1 k l v s ∧ C ≤ 1 ∧ N + pot σ1 ≤ pot σ2)) := by
  obtain ⟨⟨hG, hQ, hu, hN, hnk, hnd, hnm, hds, ⟨L', l1, l2, l3, l4, l5⟩, st, d1, d2⟩, hMI, hR1, hR2, hR3, hroot, hob, hlim, d, d3, d4⟩ := id hS
  have eL : L = L' := by rw [hL] at l1; exact nI_inj (by omega) (by omega) l1
  subst eL
  obtain ⟨hC, hU, hlw, hPV⟩ := id hG
  have hsz : ((3 : Int32) + nI l) + (2 * nI v) + nI p = nI s := by rw [nI3l, nI_add, nI_2m, nI_add, nI_add, hs]
  have hmkT : ∀ σ' U', o_us σ' = nI U' → U' + s ≤ o_lw σ' → o_lw σ' ≤ L → ∃ σ2, mkT F σ' (nI k) (nI l) (nI v) (nI s) = some (.inr (nI U'), σ2, 0, 0) ∧ EqO σ2 σ' ∧ o_us σ2 = nI (U' + s) ∧ o_md σ2 = o_md σ' + 1 ∧ o_lw σ2 = o_lw σ' ∧ NewO (o_fw σ') (o_fw σ2) U' k l v s := fun σ' U' h1 h2 h3 => P_mkT h1 h2 (by omega) hk hl hv hs2 (by omega)
  rw [make_eq, hsz, hu, pk_sub hU]
  by_cases ht : s ≤ o_lw σ - U
  · rw [cIf_t (nI_le ht (by omega))]
    obtain ⟨b, hb⟩ := P_isStressed (F := F) (σ := σ)
    rw [hb, bnd_s]
    by_cases hb0 : b = 0
    · rw [cIf_t hb0, hL, hu, pk_sub (by omega), cIf_t (nI_le (by omega) (by omega))]
      obtain ⟨σ2, m1, m2, m3, m4, m5, m6⟩ := hmkT σ U hu (by omega) l5
      have hT : Tk σ os ≤ U := tot_le os hC (Nat.le_refl 0)
      refine ⟨σ, os, U, nl, R, hS, hL, rfl, Or.inr ⟨by omega, σ2, 0, 0, m1, ⟨m2, m3, m4, by omega, by omega, fun L' q q2 => ?_, m6⟩, by omega, ?_⟩⟩
      · rw [hL] at q
        have := nI_inj (by omega) (by omega) q
        omega
      · rw [pot_eq m2.1 m5 m2.2.2.1]; omega
    · rw [cIf_f hb0]
      obtain ⟨σ1, mb, g1, g2⟩ := P_slide hF hG hQ hu hN (fun a ha => ((hnk a).mp ha).1)
      have hS1 := Sim_GC hS g2
      obtain ⟨gR, ⟨e1, e2, e3, e4, e5, e6, e7⟩, gu, -⟩ := g2
      rw [Tk_eq gR] at hS1 gu
      have hT : Tk σ os ≤ U := tot_le os hC (Nat.le_refl 0)
      rw [g1, bnp_s, e1, hL, gu, pk_sub (by omega), cIf_t (nI_le (by omega) (by omega))]
      obtain ⟨σ2, m1, m2, m3, m4, m5, m6⟩ := hmkT σ1 _ gu (by omega) (by omega)
      refine ⟨σ1, _, _, _, _, hS1, e1.trans hL, pot_eq e1 e2 e3, Or.inr ⟨by omega, σ2, 0, 0, m1, ⟨m2, m3, m4, by omega, by omega, fun L' q q2 => ?_, m6⟩, by omega, ?_⟩⟩
      · rw [e1, hL] at q
        have := nI_inj (by omega) (by omega) q
        omega
      · rw [pot_eq m2.1 m5 m2.2.2.1]; omega
  · rw [cIf_f (nI_ge (by omega) (by omega))]
    obtain ⟨σ1, mb, g1, g2⟩ := P_slide hF hG hQ hu hN (fun a ha => ((hnk a).mp ha).1)
    have hS1 := Sim_GC hS g2
    obtain ⟨gR, ⟨e1, e2, e3, e4, e5, e6, e7⟩, gu, -⟩ := g2
    rw [Tk_eq gR] at hS1 gu
    have hT : Tk σ os ≤ U := tot_le os hC (Nat.le_refl 0)
    rw [g1, bnp_s, e1, hL, gu, pk_sub (by omega)]
    by_cases hf : s ≤ L - Tk σ os
    · rw [cIf_t (nI_le hf (by omega)), nI_add]
      obtain ⟨σ1', C, N, w1, w2, w3, w4, w5, w6, w7, w8, w9, w10⟩ := P_widen (F := F) (σ := σ1) (L := L) (need := Tk σ os + s) hF (e1.trans hL) hLb (by omega) (by omega) (by omega)
      obtain ⟨σ2, m1, m2, m3, m4, m5, m6⟩ := hmkT σ1' _ (w3.trans gu) w7 w6
      refine ⟨σ1, _, _, _, _, hS1, e1.trans hL, pot_eq e1 e2 e3, Or.inr ⟨by omega, σ2, C + 0, N + 0, ?_, ⟨m2.tr w2, m3, m4.trans (by rw [w4]), by omega, by omega, fun L' q q2 => ?_, ?_⟩, by omega, ?_⟩⟩
      · rw [w1]
        show addC C N (mkT F σ1' (nI k) (nI l) (nI v) (nI s)) = _
        rw [m1]
        rfl
      · rw [e1, hL] at q
        have := nI_inj (by omega) (by omega) q
        omega
      · obtain ⟨n1, n2⟩ := m6
        exact ⟨fun x hx => (n1 x hx).trans (w8 x (by omega)), n2⟩
      · rw [pot_eq m2.1 m5 m2.2.2.1]; omega
    · rw [cIf_f (nI_ge (by omega) (by omega))]
      exact ⟨σ1, _, _, _, _, hS1, e1.trans hL, pot_eq e1 e2 e3, Or.inl ⟨by omega, rfl⟩⟩
/-- what the reference's state is when an object was made; when it was refused -/
def MkM (μ μ2 : mS) (M k n h : Nat) : Prop := m_thrown μ2 = m_thrown μ ∧ m_limit μ2 = m_limit μ ∧ m_root μ2 = m_root μ ∧ m_objects μ2 = nI (M + 1) ∧ m_kind μ2 = upd (m_kind μ) M (nI k) ∧ m_links μ2 = m_links μ ∧ m_values μ2 = m_values μ ∧ m_plain μ2 = m_plain μ ∧ m_link μ2 = m_link μ ∧ m_number μ2 = m_number μ ∧ m_refers μ2 = m_refers μ ∧ m_word μ2 = m_word μ ∧ m_length μ2 = upd (m_length μ) M (nI n) ∧ m_madeOf μ2 = upd (m_madeOf μ) M (nI h) ∧ m_a μ2 = m_a μ ∧ m_b μ2 = m_b μ ∧ m_units μ2 = m_units μ ∧ m_spread μ2 = m_spread μ
def MkF (μ μ2 : mS) (M k n h : Nat) : Prop := m_thrown μ2 = m_thrown μ ∧ m_limit μ2 = m_limit μ ∧ m_root μ2 = m_root μ ∧ m_objects μ2 = nI (M) ∧ m_kind μ2 = upd (m_kind μ) M (nI k) ∧ m_links μ2 = upd (m_links μ) M 0 ∧ m_values μ2 = upd (m_values μ) M 0 ∧ m_plain μ2 = upd (m_plain μ) M 0 ∧ m_link μ2 = m_link μ ∧ m_number μ2 = m_number μ ∧ m_refers μ2 = m_refers μ ∧ m_word μ2 = m_word μ ∧ m_length μ2 = upd (m_length μ) M (nI n) ∧ m_madeOf μ2 = upd (m_madeOf μ) M (nI h) ∧ m_a μ2 = m_a μ ∧ m_b μ2 = m_b μ ∧ m_units μ2 = m_units μ ∧ m_spread μ2 = m_spread μ
theorem P_mmake {F : Nat} {σ : oS} {μ μt : mS} {os nl : List Nat} {U M : Nat} {R : Nat → Nat → Prop} (hF : 1048600 < F) (hS : Sim σ μ os U nl M R) (hA : AgB μ μt M) (ho : m_objects μt = nI M) (hr : m_root μt = m_root μ) {k n h s L : Nat} (hl : m_limit μt = nI L) (hLb : L ≤ 1048576) (hs2 : s < 4096)
    (hw : ∀ μ', m_kind μ' M = nI k → m_length μ' M = nI n → m_links μ' M = m_links μt M → m_values μ' M = m_values μt M → m_plain μ' M = m_plain μt M → fX1_words F μ' (nI M) = some (nI s, μ')) :
    (Tk σ os + s ≤ L → ∃ μ2, fX1_make F μt (nI k) (nI n) (nI h) = some (nI M, μ2) ∧ MkM μt μ2 M k n h) ∧ (L < Tk σ os + s → ∃ μ2, fX1_make F μt (nI k) (nI n) (nI h) = some (0, μ2) ∧ MkF μt μ2 M k n h) := by
  have hsr := hS.sr
  obtain ⟨hC, hU, hM, -⟩ := id hsr
  have hT : Tk σ os ≤ U := tot_le os hC (Nat.le_refl 0)
  have hin : vp_in (nI M) 4096 := vp_in_nI (by omega) (by omega)
  have hcl : (nI M).toNatClampNeg = M := nI_clamp (by omega)
  have hsr2 : Sr (o_fw σ) os U (o_fr σ) (m_s_madeOf (m_s_length (m_s_kind μt (upd (m_kind μt) M (nI k))) (upd (m_length μt) M (nI n))) (upd (m_madeOf μt) M (nI h))) M R := by
    refine Sr_ag hsr hS.mt (hA.tr (fun o o1 o2 => ?_)) ?_ ?_
    · have hne : o ≠ M := by omega
      refine ⟨⟨?_, rfl, rfl, rfl, ?_, ?_, rfl, rfl, rfl, fun i _ => ⟨rfl, rfl, rfl⟩, fun i _ => rfl⟩, rfl⟩
      · show upd (m_kind μt) M (nI k) o = _
        exact pk_un hne
      · show upd (m_length μt) M (nI n) o = _
        exact pk_un hne
      · show upd (m_madeOf μt) M (nI h) o = _
        exact pk_un hne
    · show m_objects μt = _
      exact ho
    · show m_root μt = _
      exact hr
  obtain ⟨μ', t1, t2⟩ := P_taken (F := F) (mb := Tb σ os) (by omega) hsr2 (fun a _ => Tb_iff)
  have t1' : fX1_taken F (m_s_madeOf (m_s_length (m_s_kind μt (upd (m_kind μt) M (nI k))) (upd (m_length μt) M (nI n))) (upd (m_madeOf μt) M (nI h))) = some (nI (Tk σ os), μ') := t1
  have e4 : m_objects μ' = nI M := t2.objects.trans ho
  have e5 : m_limit μ' = nI L := t2.limit.trans hl
  have hw' := hw μ' (by rw [t2.kind]; exact pk_us) (by rw [t2.length]; exact pk_us) (by rw [t2.links]; rfl) (by rw [t2.values]; rfl) (by rw [t2.plain]; rfl)
  have hev : fX1_make F μt (nI k) (nI n) (nI h) = cIf (nI (Tk σ os + s) ≤ nI L) (some (nI M, m_s_objects μ' (nI (M + 1)))) (some (0, m_s_plain (m_s_values (m_s_links μ' (upd (m_links μ') M 0)) (upd (m_values μ') M 0)) (upd (m_plain μ') M 0))) := by
    unfold fX1_make
    rw [ho, ck_t hin, hcl, nmd_v]
    show ck (vp_in (m_objects μt) 4096) (nmd (m_s_length (m_s_kind μt (upd (m_kind μt) M (nI k))) (upd (m_length μt) (m_objects μt).toNatClampNeg (nI n))) _) = _
    rw [ho, ck_t hin, hcl, nmd_v]
    show ck (vp_in (m_objects μt) 4096) (nmd (m_s_madeOf (m_s_length (m_s_kind μt (upd (m_kind μt) M (nI k))) (upd (m_length μt) M (nI n))) (upd (m_madeOf μt) (m_objects μt).toNatClampNeg (nI h))) _) = _
    rw [ho, ck_t hin, hcl, nmd_v, t1', bnd_s, e4, hw', bnd_s, nI_add, e5, nmd_v, mgs_objects_objects, e4, nI_1, nI_pred]
    congr 1
    rw [ck_t hin, hcl, nmd_v, mgs_objects_links, e4, ck_t hin, hcl, nmd_v, mgs_objects_values, mgs_objects_links, e4, ck_t hin, hcl, nmd_v, mgs_values_links, mgs_plain_values, mgs_plain_links]
  constructor
  · intro hc
    refine ⟨m_s_objects μ' (nI (M + 1)), ?_, ?_⟩
    · rw [hev, cIf_t (nI_le hc (by omega))]
    · exact ⟨t2.thrown, t2.limit, t2.root, rfl, t2.kind, t2.links, t2.values, t2.plain, t2.link, t2.number, t2.refers, t2.word, t2.length, t2.madeOf, t2.a, t2.b, t2.units, t2.spread⟩
  · intro hc
    refine ⟨m_s_plain (m_s_values (m_s_links μ' (upd (m_links μ') M 0)) (upd (m_values μ') M 0)) (upd (m_plain μ') M 0), ?_, ?_⟩
    · rw [hev, cIf_f (nI_ge hc (by omega))]
    · refine ⟨t2.thrown, t2.limit, t2.root, e4, t2.kind, ?_, ?_, ?_, t2.link, t2.number, t2.refers, t2.word, t2.length, t2.madeOf, t2.a, t2.b, t2.units, t2.spread⟩
      · show upd (m_links μ') M 0 = _
        rw [t2.links]; rfl
      · show upd (m_values μ') M 0 = _
        rw [t2.values]; rfl
      · show upd (m_plain μ') M 0 = _
        rw [t2.plain]; rfl
