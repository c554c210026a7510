/-! the collection as a whole -/
theorem psi_congr2 {z z' : Nat → Nat} {mb mb' : Nat → Bool} : ∀ (os : List Nat) (e a : Nat), (∀ b ∈ os, z b = z' b ∧ mb b = mb' b) → psi z mb os e a = psi z' mb' os e a
  | [], e, a, h => rfl
  | b :: os, e, a, h => by
    by_cases hb : a = b
    · subst hb; rw [psi_hd, psi_hd]
    · rw [psi_tl hb, psi_tl hb, (h b List.mem_cons_self).1, (h b List.mem_cons_self).2]
      exact psi_congr2 os _ a (fun c hc => h c (List.mem_cons_of_mem _ hc))
/-- the row of names holds these -/
def NLs (σ : oS) (nl : List Nat) : Prop := o_nc σ = nI nl.length ∧ nl.length ≤ o_ln σ ∧ o_ln σ ≤ 1048576 ∧ ∀ (j a : Nat), nl[j]? = some a → o_fn σ j = nI a
/-- where a lead goes, by the places -/
def px (ψ : Nat → Nat) (x : Int32) : Int32 := if x = -1 then -1 else nI (ψ x.toNatClampNeg)
theorem px_0 (ψ : Nat → Nat) : px ψ (-1) = -1 := by unfold px; rw [if_pos rfl]
theorem px_n {ψ : Nat → Nat} {b : Nat} (h : b < 2 ^ 31) : px ψ (nI b) = nI (ψ b) := by unfold px; rw [if_neg (nI_nm1 h), nI_clamp h]
/-- an object's words at its new place -/
def cnt (f f' : Nat → Int32) (ψ : Nat → Nat) (b : Nat) : Prop :=
  f' (ψ b) = f b ∧ f' (ψ b + 1) = -1 ∧ (∀ i, i < lk f b → f' (ψ b + 3 + i) = px ψ (f (b + 3 + i))) ∧
  (∀ j, j < vl f b → f' (ψ b + 3 + lk f b + 2 * j) = f (b + 3 + lk f b + 2 * j) ∧ (isR (f (b + 3 + lk f b + 2 * j)) → f' (ψ b + 3 + lk f b + 2 * j + 1) = px ψ (f (b + 3 + lk f b + 2 * j + 1))) ∧ (¬ isR (f (b + 3 + lk f b + 2 * j)) → f' (ψ b + 3 + lk f b + 2 * j + 1) = f (b + 3 + lk f b + 2 * j + 1))) ∧
  ∀ i, 3 + lk f b + 2 * vl f b ≤ i → i < sz f b → f' (ψ b + i) = f (b + i)
/-- what a collection does -/
def GC (σ0 : oS) (os : List Nat) (nl : List Nat) (mb : Nat → Bool) (σ : oS) : Prop :=
  (∀ a ∈ os, mb a = true ↔ Rch (o_fw σ0) os (o_fr σ0) a) ∧
  (o_lim σ = o_lim σ0 ∧ o_lw σ = o_lw σ0 ∧ o_ln σ = o_ln σ0 ∧ o_fp σ = o_fp σ0 ∧ o_wt σ = -1 ∧ o_st σ = o_st σ0 ∧ o_md σ = o_md σ0) ∧
  o_us σ = nI (tot (sz (o_fw σ0)) mb os 0) ∧
  (∀ q, q < 24 → o_fr σ q = px (psi (sz (o_fw σ0)) mb os 0) (o_fr σ0 q)) ∧
  (∀ b ∈ os, mb b = true → cnt (o_fw σ0) (o_fw σ) (psi (sz (o_fw σ0)) mb os 0) b) ∧
  NLs σ ((nl.filter mb).map (psi (sz (o_fw σ0)) mb os 0))
theorem keep_eq {g : Nat → Int32} {mb : Nat → Bool} {ψ : Nat → Nat} : ∀ (nl : List Nat), (∀ a ∈ nl, (mb a = true → g (a + 1) = nI (ψ a) ∧ ¬ g (a + 1) = -1) ∧ (mb a = false → g (a + 1) = -1)) → keep g nl = ((nl.filter mb).map ψ).map nI
  | [], h => rfl
  | a :: nl, h => by
    have ih := keep_eq nl (fun b hb => h b (List.mem_cons_of_mem _ hb))
    obtain ⟨h1, h2⟩ := h a List.mem_cons_self
    rw [keep_c]
    cases hm : mb a with
    | true => rw [if_neg (h1 hm).2, List.filter_cons_of_pos hm, List.map_cons, List.map_cons, ih, (h1 hm).1]
    | false => rw [if_pos (h2 hm), List.filter_cons_of_neg (by rw [hm]; decide), ih]
theorem P_slide {F : Nat} {σ0 : oS} {os nl : List Nat} {U : Nat} (hF : 1048600 < F) (hG : GI σ0 os U) (hQ : Qt σ0 os) (hu : o_us σ0 = nI U) (hN : NLs σ0 nl) (hNo : ∀ a ∈ nl, a ∈ os) :
    ∃ σ mb, fX0_slideTogether F σ0 = some σ ∧ GC σ0 os nl mb σ := by
  obtain ⟨hC, hU, hl, hPV⟩ := id hG
  obtain ⟨σ1, left, h1, hM, hwt, hmk⟩ := P_mark hF hG hQ hu
  have hlen := Ch_len os hC
  have hnd := Ch_nodup os hC
  obtain ⟨g1, w1, es, hs1⟩ := id hM
  have hf1 : o_fw σ1 = g1 := by rw [es]; rfl
  have hw1 : w1 = -1 := by rw [es] at hwt; exact hwt
  subst hw1
  have hu1 : o_us σ1 = nI U := by rw [es]; exact hu
  have hlw1 : o_lw σ1 = o_lw σ0 := by rw [es]; rfl
  have hC1 : Ch g1 0 os U := hs1.Ch hC
  have hz1 : ∀ b ∈ os, sz (o_fw σ0) b = sz g1 b := fun b hb => (sz_congr (hs1.hd hC hb)).symm
  generalize hz0 : sz (o_fw σ0) = z0 at *
  have hz1' : ∀ b ∈ os, z0 b = sz (o_fw σ1) b := fun b hb => by rw [hf1]; exact hz1 b hb
  have hpl := P_plan (F := F) (K := fun w16 w17 σ18 => some (w16, σ18)) (z0 := z0) os F 0 0 σ1 (by rw [hf1]; exact hC1) hu1 (by omega) (by omega) (Nat.le_refl _) (by omega) hz1'
  rw [hf1] at hpl
  generalize hmb : mbf g1 = mb at *
  have hmbR : ∀ a ∈ os, mb a = true ↔ Rch (o_fw σ0) os (o_fr σ0) a := fun a ha => by
    rw [← hmk a ha, ← hmb, mbf_t]
    unfold mkd
    rw [hf1]
  have hψle : ∀ b ∈ os, psi z0 mb os 0 b ≤ b := fun b hb => by rw [← hz0]; exact psi_le os hC (Nat.le_refl _) hb
  have hbU : ∀ b ∈ os, b + 3 ≤ U := fun b hb => by have h5 := Ch_mem os hC hb; have := okO_3 h5.2.2; omega
  -- the plan
  obtain ⟨g2, hg2⟩ : ∃ g, g = plan z0 os 0 g1 := ⟨_, rfl⟩
  rw [← hg2] at hpl
  have p_at : ∀ b ∈ os, mb b = true → g2 (b + 1) = nI (psi z0 mb os 0 b) := fun b hb hm => by
    rw [← hmb] at hm
    rw [hg2, plan_at os 0 g1 hnd hb (mbf_t.mp hm), hmb]
  have p_un : ∀ b ∈ os, mb b = false → g2 (b + 1) = -1 := fun b hb hm => by
    rw [← hmb] at hm
    rw [hg2]
    exact plan_un os 0 g1 hnd hb (mbf_f.mp hm)
  have p_out : ∀ x, (∀ b ∈ os, x ≠ b + 1) → g2 x = g1 x := fun x hx => by rw [hg2]; exact plan_out os 0 g1 hx
  have hs2 : SM os (o_fw σ0) g2 := fun x hx => by rw [p_out x (fun b hb => (hx b hb).1)]; exact hs1 x hx
  have p_ne : ∀ b ∈ os, mb b = true → ¬ g2 (b + 1) = -1 := fun b hb hm => by
    rw [p_at b hb hm]
    have := hψle b hb
    have := hbU b hb
    exact nI_nm1 (by omega)
  have p_iff : ∀ b ∈ os, (¬ g2 (b + 1) = -1) → mb b = true := fun b hb hm => by
    cases hmb2 : mb b with
    | true => rfl
    | false => exact absurd (p_un b hb hmb2) hm
  have hC2 : Ch g2 0 os U := hs2.Ch hC
  obtain ⟨σ2, hσ2⟩ : ∃ s, s = o_s_fw σ1 g2 := ⟨_, rfl⟩
  rw [← hσ2] at hpl
  have hf2 : o_fw σ2 = g2 := by rw [hσ2]; rfl
  -- names
  have hN2 : o_nc σ2 = o_nc σ0 ∧ o_ln σ2 = o_ln σ0 ∧ o_fn σ2 = o_fn σ0 ∧ o_lw σ2 = o_lw σ0 ∧ o_us σ2 = o_us σ0 ∧ o_fr σ2 = o_fr σ0 := by rw [hσ2, es]; exact ⟨rfl, rfl, rfl, rfl, rfl, rfl⟩
  obtain ⟨n1, n2, n3, n4, n5, n6⟩ := hN2
  obtain ⟨hNc, hNl, hNl2, hNv⟩ := hN
  obtain ⟨fn', k1, -, k3⟩ := P_keep (F := F) (K := fun w12 w13 σ14 => nmd (o_s_nc σ14 w12) (fun σ15 => some σ15)) (g := g2) nl F 0 0 σ2 hf2 (Nat.le_refl _) (by rw [n1, hNc, Nat.zero_add]) (by omega) (by omega) (fun j a h => by rw [n3, Nat.zero_add]; exact hNv j a h) (fun a ha => by have := hbU a (hNo a ha); omega) (by omega) (by omega)
  have hke := keep_eq (g := g2) (mb := mb) (ψ := psi z0 mb os 0) nl (fun a ha => ⟨fun hm => ⟨p_at a (hNo a ha) hm, p_ne a (hNo a ha) hm⟩, fun hm => p_un a (hNo a ha) hm⟩)
  rw [hke] at k1 k3
  rw [List.length_map, Nat.zero_add] at k1
  obtain ⟨nl', hnl'⟩ : ∃ x, x = (nl.filter mb).map (psi z0 mb os 0) := ⟨_, rfl⟩
  rw [← hnl'] at k1 k3
  obtain ⟨σ3, hσ3⟩ : ∃ s, s = o_s_nc (o_s_fn σ2 fn') (nI nl'.length) := ⟨_, rfl⟩
  have hkn : fX0_keepNames F σ2 = some σ3 := by
    unfold fX0_keepNames
    have : LX0_keepNames_4 F (fun w12 w13 σ14 => nmd (o_s_nc σ14 w12) (fun σ15 => some σ15)) F 0 0 σ2 = some (o_s_nc (o_s_fn σ2 fn') (nI nl'.length)) := k1
    rw [this, hσ3]
  have hf3 : o_fw σ3 = g2 := by rw [hσ3]; exact hf2
  have hlw3 : o_lw σ3 = o_lw σ0 := by rw [hσ3]; exact n4
  have hfr3 : o_fr σ3 = o_fr σ0 := by rw [hσ3]; exact n6
  have hus3 : o_us σ3 = nI U := by rw [hσ3]; exact n5.trans hu
  -- roots
  obtain ⟨fr', r1, r2⟩ := P_touchRoots1 (F := F) (σ := σ3) (by omega) (by omega) (fun q hq => by
    rw [hfr3]
    rcases hPV.2 q hq with e | ⟨b, hb, e⟩
    · exact Or.inl e
    · exact Or.inr ⟨b, e, by have := hbU b hb; omega⟩)
  rw [hf3, hfr3] at r2
  have mp_px : ∀ x, (x = -1 ∨ ∃ b ∈ os, x = nI b ∧ mb b = true) → mp g2 x = px (psi z0 mb os 0) x := fun x hx => by
    rcases hx with e | ⟨b, hb, e, hm⟩
    · rw [e, mp_0, px_0]
    · have := hbU b hb
      rw [e, mp_n (by omega), px_n (by omega), p_at b hb hm]
  obtain ⟨σ4, hσ4⟩ : ∃ s, s = o_s_fr σ3 fr' := ⟨_, rfl⟩
  rw [← hσ4] at r1
  have hf4 : o_fw σ4 = g2 := by rw [hσ4]; exact hf3
  have hlw4 : o_lw σ4 = o_lw σ0 := by rw [hσ4]; exact hlw3
  have hus4 : o_us σ4 = nI U := by rw [hσ4]; exact hus3
  -- leads
  obtain ⟨f5, l1, l2, l3, -⟩ := P_leads (F := F) (K := fun w28 σ29 => bnp (fX0_moveAll F σ29) (fun σ30 => nmd (o_s_us σ30 (nI (tot z0 mb os 0))) (fun σ31 => some σ31))) (v1 := nI (tot z0 mb os 0)) (U := U) (os := os) (by omega) os F 0 σ4 (by rw [hf4]; exact hC2) (by rw [hf4]; exact hC2) (fun b hb => hb) hus4 (by omega) (by omega) (by omega) (fun b hb hm x hx => by
    rw [hf4] at hx
    exact hPV.1 b hb x ((chd_SM hs2 hC hb).mp hx))
  rw [hf4] at l2 l3
  have hd5 : ∀ b ∈ os, ∀ i, i < 3 → f5 (b + i) = g2 (b + i) := fun b hb i hi => by
    by_cases hm : g2 (b + 1) = -1
    · have := okO_3 (Ch_mem os hC2 hb).2.2
      exact l3 b hb hm i (by omega)
    · exact (l2 b hb hm).1 i hi
  have hC5 : Ch f5 0 os U := Ch_congr os (fun b hb => hd5 b hb 0 (by omega)) hC2
  have hz5 : ∀ b ∈ os, sz f5 b = z0 b := fun b hb => by
    have e9 : f5 b = g2 b := hd5 b hb 0 (by omega)
    rw [← hz0, sz_congr e9, sz_congr (hs2.hd hC hb)]
  have hm5 : ∀ b ∈ os, mbf f5 b = mb b := fun b hb => by
    cases hmc : mb b with
    | true => exact mbf_t.mpr (by rw [hd5 b hb 1 (by omega)]; exact p_ne b hb hmc)
    | false => exact mbf_f.mpr (by rw [hd5 b hb 1 (by omega)]; exact p_un b hb hmc)
  have hpsi : ∀ b, psi (sz f5) (mbf f5) os 0 b = psi z0 mb os 0 b := fun b => psi_congr2 os 0 b (fun c hc => ⟨hz5 c hc, hm5 c hc⟩)
  -- the slide
  obtain ⟨f6, m1, -, m3⟩ := P_moveAll (F := F) (K := fun w15 σ16 => some σ16) (f5 := f5) os F 0 0 0 (o_s_fw σ4 f5) hC5 (fun _ _ => rfl) hus4 (by show U ≤ o_lw σ4; omega) (by show o_lw σ4 ≤ _; omega) (Nat.le_refl _) (by omega) (fun b hb hm => by
    rw [hpsi b, hd5 b hb 1 (by omega)]
    rw [hd5 b hb 1 (by omega)] at hm
    exact p_at b hb (p_iff b hb hm))
  refine ⟨o_s_us (o_s_fw σ4 f6) (nI (tot z0 mb os 0)), mb, ?_, hmbR, ?_, ?_, ?_, ?_, ?_⟩
  · rw [h1]
    unfold JX0_slideTogether_51
    have e1 : fX0_planMoves F σ1 = some (nI (tot z0 mb os 0), σ2) := hpl
    rw [e1]
    show bnp (fX0_keepNames F σ2) _ = _
    rw [hkn]
    show bnp (fX0_touchRoots F σ3 1) _ = _
    rw [r1]
    refine Eq.trans l1 ?_
    have e2 : fX0_moveAll F (o_s_fw σ4 f5) = some (o_s_fw (o_s_fw σ4 f5) f6) := m1
    show bnp (fX0_moveAll F (o_s_fw σ4 f5)) _ = _
    rw [e2]
    rfl
  · rw [hσ4, hσ3, hσ2, es]; exact ⟨rfl, rfl, rfl, rfl, rfl, rfl, rfl⟩
  · rw [hz0]; rfl
  · intro q hq
    rw [hz0]
    have e1 : o_fr (o_s_us (o_s_fw σ4 f6) (nI (tot z0 mb os 0))) q = fr' q := by rw [hσ4]; rfl
    rw [e1, r2 q hq]
    refine mp_px _ ?_
    rcases hPV.2 q hq with e | ⟨b, hb, e⟩
    · exact Or.inl e
    · exact Or.inr ⟨b, hb, e, (hmbR b hb).mpr (Rch_root hq hb e)⟩
  · intro b hb hm
    rw [hz0]
    show cnt (o_fw σ0) f6 (psi z0 mb os 0) b
    have ho := (Ch_mem os hC hb).2.2
    have hsz := ho.2
    have hne := p_ne b hb hm
    have key : ∀ i, i < sz (o_fw σ0) b → i ≠ 1 → f6 (psi z0 mb os 0 b + i) = f5 (b + i) := fun i hi h1 => by
      have h5 := m3 b hb (by rw [hd5 b hb 1 (by omega)]; exact hne) i (by rw [hz5 b hb, ← hz0]; exact hi)
      rw [hpsi b, if_neg h1] at h5
      exact h5
    have k1 : f6 (psi z0 mb os 0 b + 1) = -1 := by
      have h5 := m3 b hb (by rw [hd5 b hb 1 (by omega)]; exact hne) 1 (by rw [hz5 b hb, ← hz0]; omega)
      rw [hpsi b, if_pos rfl] at h5
      exact h5
    obtain ⟨q1, q2, q3, q4⟩ := l2 b hb hne
    have e0 := hs2.hd hC hb
    rw [lk_congr e0] at q2 q3 q4
    rw [vl_congr e0] at q3 q4
    rw [sz_congr e0] at q4
    have pay : ∀ i, 3 ≤ i → i < sz (o_fw σ0) b → g2 (b + i) = o_fw σ0 (b + i) := fun i h3 hi => hs2.pay hC hb h3 hi
    have hRb := (hmbR b hb).mp hm
    have vld : ∀ x, chd (o_fw σ0) b x → mp g2 x = px (psi z0 mb os 0) x := fun x hx => mp_px x (by
      rcases hPV.1 b hb x hx with e | ⟨c, hc, e⟩
      · exact Or.inl e
      · exact Or.inr ⟨c, hc, e, (hmbR c hc).mpr (Rch_step hRb hb hc (e ▸ hx))⟩)
    refine ⟨?_, k1, fun i hi => ?_, fun j hj => ?_, fun i hi1 hi2 => ?_⟩
    · have h5 := key 0 (by omega) (by omega)
      rw [Nat.add_zero, Nat.add_zero] at h5
      rw [h5]
      exact (hd5 b hb 0 (by omega)).trans e0
    · rw [show psi z0 mb os 0 b + 3 + i = psi z0 mb os 0 b + (3 + i) by omega, key (3 + i) (by omega) (by omega), show b + (3 + i) = b + 3 + i by omega, q2 i hi, show b + 3 + i = b + (3 + i) by omega, pay _ (by omega) (by omega), show b + (3 + i) = b + 3 + i by omega]
      exact vld _ (Or.inl ⟨i, hi, rfl⟩)
    · obtain ⟨s1, s2, s3⟩ := q3 j hj
      have e1 : g2 (b + 3 + lk (o_fw σ0) b + 2 * j) = o_fw σ0 (b + 3 + lk (o_fw σ0) b + 2 * j) := by
        rw [show b + 3 + lk (o_fw σ0) b + 2 * j = b + (3 + lk (o_fw σ0) b + 2 * j) by omega]; exact pay _ (by omega) (by omega)
      have e2 : g2 (b + 3 + lk (o_fw σ0) b + 2 * j + 1) = o_fw σ0 (b + 3 + lk (o_fw σ0) b + 2 * j + 1) := by
        rw [show b + 3 + lk (o_fw σ0) b + 2 * j + 1 = b + (3 + lk (o_fw σ0) b + 2 * j + 1) by omega]; exact pay _ (by omega) (by omega)
      have e3 : f6 (psi z0 mb os 0 b + 3 + lk (o_fw σ0) b + 2 * j) = f5 (b + 3 + lk (o_fw σ0) b + 2 * j) := by
        rw [show psi z0 mb os 0 b + 3 + lk (o_fw σ0) b + 2 * j = psi z0 mb os 0 b + (3 + lk (o_fw σ0) b + 2 * j) by omega, key _ (by omega) (by omega)]; congr 1; omega
      have e4 : f6 (psi z0 mb os 0 b + 3 + lk (o_fw σ0) b + 2 * j + 1) = f5 (b + 3 + lk (o_fw σ0) b + 2 * j + 1) := by
        rw [show psi z0 mb os 0 b + 3 + lk (o_fw σ0) b + 2 * j + 1 = psi z0 mb os 0 b + (3 + lk (o_fw σ0) b + 2 * j + 1) by omega, key _ (by omega) (by omega)]; congr 1; omega
      rw [e1] at s1 s2 s3
      rw [e2] at s2 s3
      rw [e3, e4]
      refine ⟨s1, fun hR => ?_, s3⟩
      rw [s2 hR]
      exact vld _ (Or.inr ⟨j, hj, hR, rfl⟩)
    · rw [key i hi2 (by omega), q4 i hi1 hi2]
      exact pay i (by omega) hi2
  · rw [hz0, ← hnl']
    have hle : nl'.length ≤ nl.length := by rw [hnl', List.length_map]; exact List.length_filter_le _ _
    refine ⟨?_, ?_, ?_, fun j a h => ?_⟩
    · rw [hσ4, hσ3]; rfl
    · have : o_ln (o_s_us (o_s_fw σ4 f6) (nI (tot z0 mb os 0))) = o_ln σ0 := by rw [hσ4, hσ3]; exact n2
      omega
    · have : o_ln (o_s_us (o_s_fw σ4 f6) (nI (tot z0 mb os 0))) = o_ln σ0 := by rw [hσ4, hσ3]; exact n2
      omega
    · have e1 : o_fn (o_s_us (o_s_fw σ4 f6) (nI (tot z0 mb os 0))) = fn' := by rw [hσ4, hσ3]; rfl
      rw [e1]
      have := k3 j (nI a) (by rw [List.getElem?_map, h]; rfl)
      rw [Nat.zero_add] at this
      exact this
