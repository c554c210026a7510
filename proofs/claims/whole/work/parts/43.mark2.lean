/-! marking: the roots, and the leads of one object -/
theorem upd_same {f : Nat → Int32} {k : Nat} : upd f k (f k) = f := by
  funext j
  unfold upd
  by_cases h : j = k
  · rw [if_pos h, h]
  · rw [if_neg h]
theorem upd_eq {f : Nat → Int32} {k : Nat} {v : Int32} (h : v = f k) : upd f k v = f := by rw [h]; exact upd_same
theorem fr_same (σ : oS) : o_s_fr σ (o_fr σ) = σ := rfl
theorem fw_same (σ : oS) : o_s_fw σ (o_fw σ) = σ := rfl
theorem lit24 : (24 : Int32) = nI 24 := rfl
theorem MK_roots {F : Nat} {σ0 : oS} {os : List Nat} {U : Nat} {c : Nat → Prop} {K : Int32 → oS → Option oS} (hG : GI σ0 os U) (k : Nat) : ∀ (n r : Nat) (σ : oS) (wl : List Nat), r + k = 24 → k < n → MK σ0 os σ wl c → (∀ q, q < r → ∀ b ∈ os, o_fr σ0 q = nI b → mkd σ b) →
    ∃ σ' wl', LX0_touchRoots_2 F K 0 n (nI r) σ = K (nI 24) σ' ∧ MK σ0 os σ' wl' c ∧ (∀ q, q < 24 → ∀ b ∈ os, o_fr σ0 q = nI b → mkd σ' b) ∧ (∀ a ∈ os, mkd σ a → mkd σ' a) ∧ umk (o_fw σ') os + wl'.length = umk (o_fw σ) os + wl.length := by
  induction k with
  | zero =>
    intro n r σ wl hr hn hI hm
    obtain ⟨n, rfl⟩ : ∃ m, n = m + 1 := ⟨n - 1, by omega⟩
    have e : r = 24 := by omega
    subst e
    refine ⟨σ, wl, ?_, hI, hm, fun _ _ h => h, rfl⟩
    rw [LX0_touchRoots_2, cIf_t (by rw [lit24]; exact nI_le (Nat.le_refl _) (by omega))]
  | succ k ih =>
    intro n r σ wl hr hn hI hm
    obtain ⟨n, rfl⟩ : ∃ m, n = m + 1 := ⟨n - 1, by omega⟩
    have hfr := hI.1.fr
    have hx : o_fr σ r = -1 ∨ ∃ b ∈ os, o_fr σ r = nI b ∧ Rch (o_fw σ0) os (o_fr σ0) b := by
      rw [hfr]
      rcases hG.2.2.2.2 r (by omega) with e | ⟨b, hb, e⟩
      · exact Or.inl e
      · exact Or.inr ⟨b, hb, e, Rch_root (by omega) hb e⟩
    obtain ⟨σ1, wl1, h1, h2, h3, h4, h5⟩ := MK_touch (F := F) hG hI hx
    have hm1 : ∀ q, q < r + 1 → ∀ b ∈ os, o_fr σ0 q = nI b → mkd σ1 b := by
      intro q hq b hb e
      by_cases hqr : q = r
      · subst hqr
        exact h3 b hb (by rw [hfr]; exact e)
      · exact h4 b hb (hm q (by omega) b hb e)
    obtain ⟨σ2, wl2, g1, g2, g3, g4, g5⟩ := ih n (r + 1) σ1 wl1 (by omega) (by omega) h2 hm1
    refine ⟨σ2, wl2, ?_, g2, g3, fun a ha q => g4 a ha (h4 a ha q), g5.trans h5⟩
    rw [LX0_touchRoots_2, cIf_f (by rw [lit24]; exact nI_ge (by omega) (by omega)), ck_t (vp_in_nI (by omega) (by omega)), nI_clamp (by omega)]
    show bnd (fX0_touch F σ (o_fr σ r) 0) _ = _
    rw [h1]
    show ck (vp_in (nI r) 24) _ = _
    rw [ck_t (vp_in_nI (by omega) (by omega))]
    show LX0_touchRoots_2 F K 0 n (nI r + 1) (o_s_fr σ1 (upd (o_fr σ1) r (o_fr σ r))) = _
    rw [upd_eq (by rw [hfr, h2.1.fr]), fr_same, nI_1]
    exact g1
theorem P_touchRoots0 {F : Nat} {σ0 σ : oS} {os : List Nat} {U : Nat} {c : Nat → Prop} {wl : List Nat} (hF : 24 < F) (hG : GI σ0 os U) (hI : MK σ0 os σ wl c) :
    ∃ σ' wl', fX0_touchRoots F σ 0 = some σ' ∧ MK σ0 os σ' wl' c ∧ (∀ q, q < 24 → ∀ b ∈ os, o_fr σ0 q = nI b → mkd σ' b) ∧ umk (o_fw σ') os + wl'.length = umk (o_fw σ) os + wl.length := by
  obtain ⟨σ', wl', h1, h2, h3, -, h5⟩ := MK_roots (F := F) (K := fun _ σ => some σ) hG 24 F 0 σ wl (by omega) hF hI (fun q hq => absurd hq (by omega))
  exact ⟨σ', wl', h1, h2, h3, h5⟩
theorem MK_links {F : Nat} {σ0 : oS} {os : List Nat} {U a : Nat} {c : Nat → Prop} {K : Int32 → oS → Option oS} {v1 : Int32} (hG : GI σ0 os U) (ha : a ∈ os) (hRa : Rch (o_fw σ0) os (o_fr σ0) a) (k : Nat) : ∀ (n i : Nat) (σ : oS) (wl : List Nat), i + k = lk (o_fw σ0) a → k < n → MK σ0 os σ wl c → (∀ j, j < i → ∀ b ∈ os, o_fw σ0 (a + 3 + j) = nI b → mkd σ b) →
    ∃ σ' wl', LX0_touchLeads_15 F K v1 0 (nI (a + 3 + lk (o_fw σ0) a)) n (nI (a + 3 + i)) σ = K (nI (a + 3 + lk (o_fw σ0) a)) σ' ∧ MK σ0 os σ' wl' c ∧ (∀ j, j < lk (o_fw σ0) a → ∀ b ∈ os, o_fw σ0 (a + 3 + j) = nI b → mkd σ' b) ∧ (∀ d ∈ os, mkd σ d → mkd σ' d) ∧ umk (o_fw σ') os + wl'.length = umk (o_fw σ) os + wl.length := by
  obtain ⟨hC, hU, hl, hPV⟩ := id hG
  have hma := Ch_mem os hC ha
  have hsz := hma.2.2.2
  induction k with
  | zero =>
    intro n i σ wl hr hn hI hm
    obtain ⟨n, rfl⟩ : ∃ m, n = m + 1 := ⟨n - 1, by omega⟩
    have e : i = lk (o_fw σ0) a := by omega
    subst e
    refine ⟨σ, wl, ?_, hI, hm, fun _ _ h => h, rfl⟩
    rw [LX0_touchLeads_15, cIf_t (nI_le (Nat.le_refl _) (by omega))]
  | succ k ih =>
    intro n i σ wl hr hn hI hm
    obtain ⟨n, rfl⟩ : ∃ m, n = m + 1 := ⟨n - 1, by omega⟩
    have hlw := hI.1.lw
    have hpay : ∀ σ2, MSt σ0 os σ2 → o_fw σ2 (a + 3 + i) = o_fw σ0 (a + 3 + i) := fun σ2 h2 => by
      have := h2.sm.pay hC ha (i := 3 + i) (by omega) (by omega)
      rw [show a + 3 + i = a + (3 + i) by omega]
      exact this
    have hx : o_fw σ (a + 3 + i) = -1 ∨ ∃ b ∈ os, o_fw σ (a + 3 + i) = nI b ∧ Rch (o_fw σ0) os (o_fr σ0) b := by
      rw [hpay σ hI.1]
      rcases hPV.1 a ha _ (Or.inl ⟨i, by omega, rfl⟩) with e | ⟨b, hb, e⟩
      · exact Or.inl e
      · exact Or.inr ⟨b, hb, e, Rch_step hRa ha hb (Or.inl ⟨i, by omega, e⟩)⟩
    obtain ⟨σ1, wl1, h1, h2, h3, h4, h5⟩ := MK_touch (F := F) hG hI hx
    have hm1 : ∀ j, j < i + 1 → ∀ b ∈ os, o_fw σ0 (a + 3 + j) = nI b → mkd σ1 b := by
      intro j hj b hb e
      by_cases hji : j = i
      · subst hji
        exact h3 b hb (by rw [hpay σ hI.1]; exact e)
      · exact h4 b hb (hm j (by omega) b hb e)
    obtain ⟨σ2, wl2, g1, g2, g3, g4, g5⟩ := ih n (i + 1) σ1 wl1 (by omega) (by omega) h2 hm1
    refine ⟨σ2, wl2, ?_, g2, g3, fun d hd q => g4 d hd (h4 d hd q), g5.trans h5⟩
    have hlw1 := h2.1.lw
    rw [LX0_touchLeads_15, cIf_f (nI_ge (by omega) (by omega)), ck_t (vp_in_nI (by omega) (by omega)), nI_clamp (by omega)]
    show bnd (fX0_touch F σ (o_fw σ (a + 3 + i)) 0) _ = _
    rw [h1]
    show ck (vp_in (nI (a + 3 + i)) (o_lw σ1)) _ = _
    rw [ck_t (vp_in_nI (by omega) (by omega))]
    show LX0_touchLeads_15 F K v1 0 (nI (a + 3 + lk (o_fw σ0) a)) n (nI (a + 3 + i) + 1) (o_s_fw σ1 (upd (o_fw σ1) (a + 3 + i) (o_fw σ (a + 3 + i)))) = _
    rw [upd_eq (by rw [hpay σ hI.1, hpay σ1 h2.1]), fw_same, nI_1]
    exact g1
theorem MK_vals {F : Nat} {σ0 : oS} {os : List Nat} {U a : Nat} {c : Nat → Prop} {K : Int32 → oS → Option oS} {v1 v3 : Int32} (hG : GI σ0 os U) (ha : a ∈ os) (hRa : Rch (o_fw σ0) os (o_fr σ0) a) (k : Nat) : ∀ (n i : Nat) (σ : oS) (wl : List Nat), i + k = vl (o_fw σ0) a → k < n → MK σ0 os σ wl c → (∀ j, j < i → isR (o_fw σ0 (a + 3 + lk (o_fw σ0) a + 2 * j)) → ∀ b ∈ os, o_fw σ0 (a + 3 + lk (o_fw σ0) a + 2 * j + 1) = nI b → mkd σ b) →
    ∃ σ' wl', LX0_touchLeads_60 F K v1 0 v3 (nI (a + 3 + lk (o_fw σ0) a + 2 * vl (o_fw σ0) a)) n (nI (a + 3 + lk (o_fw σ0) a + 2 * i)) σ = K (nI (a + 3 + lk (o_fw σ0) a + 2 * vl (o_fw σ0) a)) σ' ∧ MK σ0 os σ' wl' c ∧ (∀ j, j < vl (o_fw σ0) a → isR (o_fw σ0 (a + 3 + lk (o_fw σ0) a + 2 * j)) → ∀ b ∈ os, o_fw σ0 (a + 3 + lk (o_fw σ0) a + 2 * j + 1) = nI b → mkd σ' b) ∧ (∀ d ∈ os, mkd σ d → mkd σ' d) ∧ umk (o_fw σ') os + wl'.length = umk (o_fw σ) os + wl.length := by
  obtain ⟨hC, hU, hl, hPV⟩ := id hG
  have hma := Ch_mem os hC ha
  have hsz := hma.2.2.2
  generalize hL : lk (o_fw σ0) a = L at *
  induction k with
  | zero =>
    intro n i σ wl hr hn hI hm
    obtain ⟨n, rfl⟩ : ∃ m, n = m + 1 := ⟨n - 1, by omega⟩
    have e : i = vl (o_fw σ0) a := by omega
    subst e
    refine ⟨σ, wl, ?_, hI, hm, fun _ _ h => h, rfl⟩
    rw [LX0_touchLeads_60, cIf_t (nI_le (Nat.le_refl _) (by omega))]
  | succ k ih =>
    intro n i σ wl hr hn hI hm
    obtain ⟨n, rfl⟩ : ∃ m, n = m + 1 := ⟨n - 1, by omega⟩
    have hlw := hI.1.lw
    have hpay : ∀ (σ2 : oS), MSt σ0 os σ2 → ∀ y, y = 0 ∨ y = 1 → o_fw σ2 (a + 3 + L + 2 * i + y) = o_fw σ0 (a + 3 + L + 2 * i + y) := fun σ2 h2 y hy => by
      have := h2.sm.pay hC ha (i := 3 + L + 2 * i + y) (by omega) (by omega)
      rw [show a + 3 + L + 2 * i + y = a + (3 + L + 2 * i + y) by omega]
      exact this
    have e0 : o_fw σ (a + 3 + L + 2 * i) = o_fw σ0 (a + 3 + L + 2 * i) := hpay σ hI.1 0 (Or.inl rfl)
    rw [LX0_touchLeads_60, cIf_f (nI_ge (by omega) (by omega)), ck_t (vp_in_nI (by omega) (by omega)), nI_clamp (by omega)]
    by_cases hR : isR (o_fw σ0 (a + 3 + L + 2 * i))
    · have hx : o_fw σ (a + 3 + L + 2 * i + 1) = -1 ∨ ∃ b ∈ os, o_fw σ (a + 3 + L + 2 * i + 1) = nI b ∧ Rch (o_fw σ0) os (o_fr σ0) b := by
        rw [hpay σ hI.1 1 (Or.inr rfl)]
        rcases hPV.1 a ha _ (Or.inr ⟨i, by omega, by rw [hL]; exact hR, rfl⟩) with e | ⟨b, hb, e⟩
        · rw [hL] at e; exact Or.inl e
        · rw [hL] at e
          exact Or.inr ⟨b, hb, e, Rch_step hRa ha hb (Or.inr ⟨i, by omega, by rw [hL]; exact hR, by rw [hL]; exact e⟩)⟩
      obtain ⟨σ1, wl1, h1, h2, h3, h4, h5⟩ := MK_touch (F := F) hG hI hx
      have hm1 : ∀ j, j < i + 1 → isR (o_fw σ0 (a + 3 + L + 2 * j)) → ∀ b ∈ os, o_fw σ0 (a + 3 + L + 2 * j + 1) = nI b → mkd σ1 b := by
        intro j hj hj2 b hb e
        by_cases hji : j = i
        · subst hji
          exact h3 b hb (by rw [hpay σ hI.1 1 (Or.inr rfl)]; exact e)
        · exact h4 b hb (hm j (by omega) hj2 b hb e)
      obtain ⟨σ2, wl2, g1, g2, g3, g4, g5⟩ := ih n (i + 1) σ1 wl1 (by omega) (by omega) h2 hm1
      refine ⟨σ2, wl2, ?_, g2, g3, fun d hd q => g4 d hd (h4 d hd q), g5.trans h5⟩
      have hlw1 := h2.1.lw
      show bnp (fX0_isReference F (o_fw σ (a + 3 + L + 2 * i))) _ = _
      rw [e0, P_isReference_t hR]
      show cIf ((1 : Int32) = 0) _ _ = _
      rw [cIf_f (by decide), nI_1, ck_t (vp_in_nI (by omega) (by omega)), nI_clamp (by omega)]
      show bnd (fX0_touch F σ (o_fw σ (a + 3 + L + 2 * i + 1)) 0) _ = _
      rw [h1]
      show ck (vp_in (nI (a + 3 + L + 2 * i + 1)) (o_lw σ1)) _ = _
      rw [ck_t (vp_in_nI (by omega) (by omega))]
      show LX0_touchLeads_60 F K v1 0 v3 (nI (a + 3 + L + 2 * vl (o_fw σ0) a)) n (nI (a + 3 + L + 2 * i) + 2) (o_s_fw σ1 (upd (o_fw σ1) (a + 3 + L + 2 * i + 1) (o_fw σ (a + 3 + L + 2 * i + 1)))) = _
      rw [upd_eq (by rw [hpay σ hI.1 1 (Or.inr rfl), hpay σ1 h2.1 1 (Or.inr rfl)]), fw_same, nI_p2]
      exact g1
    · have hm1 : ∀ j, j < i + 1 → isR (o_fw σ0 (a + 3 + L + 2 * j)) → ∀ b ∈ os, o_fw σ0 (a + 3 + L + 2 * j + 1) = nI b → mkd σ b := by
        intro j hj hj2 b hb e
        by_cases hji : j = i
        · subst hji
          exact absurd hj2 hR
        · exact hm j (by omega) hj2 b hb e
      obtain ⟨σ2, wl2, g1, g2, g3, g4, g5⟩ := ih n (i + 1) σ wl (by omega) (by omega) hI hm1
      refine ⟨σ2, wl2, ?_, g2, g3, g4, g5⟩
      show bnp (fX0_isReference F (o_fw σ (a + 3 + L + 2 * i))) _ = _
      rw [e0, P_isReference_f hR]
      show cIf ((0 : Int32) = 0) _ _ = _
      rw [cIf_t rfl, nI_p2]
      exact g1
/-- all leads of one object are marked -/
theorem P_touchLeads0 {F : Nat} {σ0 σ : oS} {os : List Nat} {U a : Nat} {c : Nat → Prop} {wl : List Nat} (hF : 20 < F) (hG : GI σ0 os U) (ha : a ∈ os) (hRa : Rch (o_fw σ0) os (o_fr σ0) a) (hI : MK σ0 os σ wl c) :
    ∃ σ' wl', fX0_touchLeads F σ (nI a) 0 = some σ' ∧ MK σ0 os σ' wl' c ∧ (∀ b ∈ os, chd (o_fw σ0) a (nI b) → mkd σ' b) ∧ (∀ d ∈ os, mkd σ d → mkd σ' d) ∧ umk (o_fw σ') os + wl'.length = umk (o_fw σ) os + wl.length := by
  obtain ⟨hC, hU, hl, hPV⟩ := id hG
  have hma := Ch_mem os hC ha
  have hsz := hma.2.2.2
  have hlk : lk (o_fw σ0) a < 16 := Nat.mod_lt _ (by decide)
  have hvl : vl (o_fw σ0) a < 16 := Nat.mod_lt _ (by decide)
  have e0 := hI.1.sm.hd hC ha
  obtain ⟨σ1, wl1, h1, h2, h3, h4, h5⟩ := MK_links (F := F) (v1 := nI a) (K := fun w13 σ14 => bnd (fX0_valuesAt F σ14 (nI a)) (fun r16 σ15 => nmd (nI (a + 3 + lk (o_fw σ0) a) + (2 * r16)) (fun x17 => LX0_touchLeads_60 F (fun w31 σ32 => some σ32) (nI a) 0 (nI (a + 3 + lk (o_fw σ0) a)) x17 F (nI (a + 3 + lk (o_fw σ0) a)) σ15))) hG ha hRa (lk (o_fw σ0) a) F 0 σ wl (by omega) (by omega) hI (fun j hj => absurd hj (by omega))
  have e1 := h2.1.sm.hd hC ha
  have hlw := hI.1.lw
  have hlw1 := h2.1.lw
  obtain ⟨σ2, wl2, g1, g2, g3, g4, g5⟩ := MK_vals (F := F) (v1 := nI a) (v3 := nI (a + 3 + lk (o_fw σ0) a)) (K := fun w31 σ32 => some σ32) hG ha hRa (vl (o_fw σ0) a) F 0 σ1 wl1 (by omega) (by omega) h2 (fun j hj => absurd hj (by omega))
  refine ⟨σ2, wl2, ?_, g2, ?_, fun d hd q => g4 d hd (h4 d hd q), g5.trans h5⟩
  · unfold fX0_touchLeads
    rw [P_linksAt (by omega) (by omega) (okO_congr e0 hma.2.2).1, lk_congr e0]
    show LX0_touchLeads_15 F _ (nI a) 0 ((nI a + 3) + nI (lk (o_fw σ0) a)) F (nI a + 3) σ = _
    rw [nI_p3, nI_add]
    refine Eq.trans h1 ?_
    show bnd (fX0_valuesAt F σ1 (nI a)) _ = _
    rw [P_valuesAt (by omega) (by omega) (okO_congr e1 hma.2.2).1, vl_congr e1]
    show LX0_touchLeads_60 F (fun w31 σ32 => some σ32) (nI a) 0 (nI (a + 3 + lk (o_fw σ0) a)) (nI (a + 3 + lk (o_fw σ0) a) + (2 * nI (vl (o_fw σ0) a))) F (nI (a + 3 + lk (o_fw σ0) a)) σ1 = _
    rw [nI_2m, nI_add]
    exact g1
  · intro b hb hch
    rcases hch with ⟨i, hi, e⟩ | ⟨j, hj, hR, e⟩
    · exact g4 b hb (h3 i hi b hb e)
    · exact g3 j hj hR b hb e
