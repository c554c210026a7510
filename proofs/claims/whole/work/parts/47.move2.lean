/-! the leads of all objects are told where they go; then all slide -/
/-- one object's words behind the telling: f before, f' behind -/
def mvO (g f f' : Nat → Int32) (b : Nat) : Prop :=
  (∀ i, i < 3 → f' (b + i) = f (b + i)) ∧ (∀ i, i < lk f b → f' (b + 3 + i) = mp g (f (b + 3 + i))) ∧
  (∀ j, j < vl f b → f' (b + 3 + lk f b + 2 * j) = f (b + 3 + lk f b + 2 * j) ∧ (isR (f (b + 3 + lk f b + 2 * j)) → f' (b + 3 + lk f b + 2 * j + 1) = mp g (f (b + 3 + lk f b + 2 * j + 1))) ∧ (¬ isR (f (b + 3 + lk f b + 2 * j)) → f' (b + 3 + lk f b + 2 * j + 1) = f (b + 3 + lk f b + 2 * j + 1))) ∧
  ∀ i, 3 + lk f b + 2 * vl f b ≤ i → i < sz f b → f' (b + i) = f (b + i)
theorem P_touchLeads1 {F : Nat} {σ : oS} {a : Nat} (hF : 20 < F) (ho : okO (o_fw σ) a) (ha : a + sz (o_fw σ) a ≤ o_lw σ) (hl : o_lw σ ≤ 1048576) (hv : ∀ x, chd (o_fw σ) a x → x = -1 ∨ ∃ t, x = nI t ∧ t + 1 < o_lw σ ∧ (t + 1 < a + 3 ∨ a + sz (o_fw σ) a ≤ t + 1)) :
    ∃ f', fX0_touchLeads F σ (nI a) 1 = some (o_s_fw σ f') ∧ mvO (o_fw σ) (o_fw σ) f' a ∧ ∀ x, x < a + 3 ∨ a + sz (o_fw σ) a ≤ x → f' x = o_fw σ x := by
  have hlk : lk (o_fw σ) a < 16 := Nat.mod_lt _ (by decide)
  have hvl : vl (o_fw σ) a < 16 := Nat.mod_lt _ (by decide)
  have hsz := ho.2
  generalize hL : lk (o_fw σ) a = l at *
  generalize hV : vl (o_fw σ) a = v at *
  obtain ⟨f1, h1, h2, h3⟩ := MV_links (F := F) (v1 := nI a) (a := a) (l := l) (K := fun w13 σ14 => bnd (fX0_valuesAt F σ14 (nI a)) (fun r16 σ15 => nmd (nI (a + 3 + l) + (2 * r16)) (fun x17 => LX0_touchLeads_60 F (fun w31 σ32 => some σ32) (nI a) 1 (nI (a + 3 + l)) x17 F (nI (a + 3 + l)) σ15))) l F 0 σ (by omega) (by omega) hl (by omega) (fun j _ hj => by
    rcases hv _ (Or.inl ⟨j, by rw [hL]; exact hj, rfl⟩) with e | ⟨t, e1, e2, e3⟩
    · exact Or.inl e
    · exact Or.inr ⟨t, e1, e2, by omega⟩)
  have k1 : ∀ x, a + 3 + l ≤ x → f1 x = o_fw σ x := fun x hx => h3 x (Or.inr hx)
  have hf1 : o_fw (o_s_fw σ f1) = f1 := rfl
  have e0 : f1 a = o_fw σ a := h3 a (Or.inl (by omega))
  obtain ⟨f2, g1, g2, g3⟩ := MV_vals (F := F) (v1 := nI a) (v3 := nI (a + 3 + l)) (b := a + 3 + l) (v := v) (K := fun w31 σ32 => some σ32) v F 0 (o_s_fw σ f1) (by omega) (by omega) hl (by show a + 3 + l + 2 * v ≤ o_lw σ; omega) (fun j _ hj => by
    show isR (f1 (a + 3 + l + 2 * j)) → f1 (a + 3 + l + 2 * j + 1) = -1 ∨ ∃ t, f1 (a + 3 + l + 2 * j + 1) = nI t ∧ t + 1 < o_lw σ ∧ _
    rw [k1 _ (by omega), k1 _ (by omega)]
    intro hR
    rcases hv _ (Or.inr ⟨j, by rw [hV]; exact hj, by rw [hL]; exact hR, rfl⟩) with e | ⟨t, e1, e2, e3⟩
    · rw [hL] at e; exact Or.inl e
    · rw [hL] at e1
      exact Or.inr ⟨t, e1, e2, by omega⟩)
  rw [hf1] at g2 g3
  refine ⟨f2, ?_, ⟨fun i hi => ?_, fun i hi => ?_, fun j hj => ?_, fun i hi1 hi2 => ?_⟩, fun x hx => ?_⟩
  · unfold fX0_touchLeads
    rw [P_linksAt (by omega) (by omega) ho.1, hL]
    show LX0_touchLeads_15 F _ (nI a) 1 ((nI a + 3) + nI l) F (nI a + 3) σ = _
    rw [nI_p3, nI_add]
    refine Eq.trans h1 ?_
    show bnd (fX0_valuesAt F (o_s_fw σ f1) (nI a)) _ = _
    rw [P_valuesAt (σ := o_s_fw σ f1) (by show a < o_lw σ; omega) hl (by rw [hf1]; exact (okO_congr e0 ho).1), hf1, vl_congr e0, hV]
    show LX0_touchLeads_60 F (fun w31 σ32 => some σ32) (nI a) 1 (nI (a + 3 + l)) (nI (a + 3 + l) + (2 * nI v)) F (nI (a + 3 + l)) (o_s_fw σ f1) = _
    rw [nI_2m, nI_add]
    exact g1
  · rw [g3 _ (Or.inl (by omega)), h3 _ (Or.inl (by omega))]
  · rw [hL] at hi
    rw [g3 _ (Or.inl (by omega))]
    exact h2 i (by omega) hi
  · rw [hV] at hj
    rw [hL]
    obtain ⟨p1, p2, p3⟩ := g2 j (by omega) hj
    rw [k1 (a + 3 + l + 2 * j) (by omega)] at p1 p2 p3
    rw [k1 (a + 3 + l + 2 * j + 1) (by omega)] at p2 p3
    refine ⟨p1, fun hR => ?_, p3⟩
    rw [p2 hR]
    rcases hv _ (Or.inr ⟨j, by rw [hV]; exact hj, by rw [hL]; exact hR, rfl⟩) with e | ⟨t, e1, e2, e3⟩
    · rw [hL] at e; rw [e, mp_0, mp_0]
    · rw [hL] at e1
      rw [e1, mp_n (by omega), mp_n (by omega), h3 (t + 1) (by omega)]
  · rw [hL, hV] at hi1
    rw [g3 _ (Or.inr (by omega)), k1 _ (by omega)]
  · rw [g3 x (by omega), h3 x (by omega)]
theorem mp_eq {g g' : Nat → Int32} {x : Int32} {os : List Nat} {U : Nat} (hU : U ≤ 1048576) (hx : x = -1 ∨ ∃ t ∈ os, x = nI t) (ho : ∀ t ∈ os, t < U) (hg : ∀ t ∈ os, g' (t + 1) = g (t + 1)) : mp g' x = mp g x := by
  rcases hx with e | ⟨t, ht, e⟩
  · rw [e, mp_0, mp_0]
  · have := ho t ht
    rw [e, mp_n (by omega), mp_n (by omega), hg t ht]
/-- all marked objects' leads, over a chain's rest -/
theorem P_leads {F : Nat} {K : Int32 → oS → Option oS} {v1 : Int32} {U : Nat} {os : List Nat} (hF : 20 < F) : ∀ (r : List Nat) (n a : Nat) (σ : oS), Ch (o_fw σ) 0 os U → Ch (o_fw σ) a r U → (∀ b ∈ r, b ∈ os) → o_us σ = nI U → U ≤ o_lw σ → o_lw σ ≤ 1048576 → r.length < n → (∀ b ∈ r, ¬ o_fw σ (b + 1) = -1 → ∀ x, chd (o_fw σ) b x → x = -1 ∨ ∃ t ∈ os, x = nI t) →
    ∃ f', LX0_slideTogether_67 F K v1 n (nI a) σ = K (nI U) (o_s_fw σ f') ∧ (∀ b ∈ r, ¬ o_fw σ (b + 1) = -1 → mvO (o_fw σ) (o_fw σ) f' b) ∧ (∀ b ∈ r, o_fw σ (b + 1) = -1 → ∀ i, i < sz (o_fw σ) b → f' (b + i) = o_fw σ (b + i)) ∧ ∀ x, x < a ∨ U ≤ x → f' x = o_fw σ x
  | [], n, a, σ, hC, hr, hsub, hu, hU, hl, hn, hv => by
    obtain ⟨n, rfl⟩ : ∃ m, n = m + 1 := ⟨n - 1, by simp at hn; omega⟩
    have e1 : a = U := hr
    subst e1
    refine ⟨o_fw σ, ?_, (fun b hb => nomatch hb), (fun b hb => nomatch hb), fun _ _ => rfl⟩
    rw [LX0_slideTogether_67, hu, cIf_t (nI_le (Nat.le_refl _) (by omega))]
    rfl
  | b :: r, n, a, σ, hC, hr, hsub, hu, hU, hl, hn, hv => by
    obtain ⟨n, rfl⟩ : ∃ m, n = m + 1 := ⟨n - 1, by simp at hn; omega⟩
    simp only [List.length_cons] at hn
    obtain ⟨e1, ho, hr⟩ := hr
    subst e1
    have hbo := hsub b List.mem_cons_self
    have hb1 := Ch_le r hr
    have hb3 := okO_3 ho
    rw [LX0_slideTogether_67, hu, cIf_f (nI_ge (by omega) (by omega)), nI_1, ck_t (vp_in_nI (by omega) (by omega)), nI_clamp (by omega)]
    show ∃ f', cIf (o_fw σ (b + 1) = -1) _ _ = _ ∧ _
    by_cases hm : o_fw σ (b + 1) = -1
    · obtain ⟨f', h1, h2, h3, h4⟩ := P_leads hF r n (b + sz (o_fw σ) b) σ hC hr (fun c hc => hsub c (List.mem_cons_of_mem _ hc)) hu hU hl (by omega) (fun c hc => hv c (List.mem_cons_of_mem _ hc))
      refine ⟨f', ?_, fun c hc hmc => ?_, fun c hc hmc i hi => ?_, fun x hx => h4 x (by omega)⟩
      · rw [cIf_t hm, P_sizeAt (by omega) (by omega) ho.1]
        show LX0_slideTogether_67 F K v1 n (nI b + cIf ((3 : Int32) < nI (sz (o_fw σ) b)) (nI (sz (o_fw σ) b)) 3) σ = _
        rw [mx3 (by omega) (by omega), nI_add]
        exact h1
      · rcases List.mem_cons.mp hc with e | hc
        · exact absurd (e ▸ hm) hmc
        · exact h2 c hc hmc
      · rcases List.mem_cons.mp hc with e | hc
        · subst e; exact h4 _ (Or.inl (by omega))
        · exact h3 c hc hmc i hi
    · have hvb := hv b List.mem_cons_self hm
      obtain ⟨f1, g1, g2, g3⟩ := P_touchLeads1 (F := F) hF ho (by omega) hl (fun x hx => by
        rcases hvb x hx with e | ⟨t, ht, e⟩
        · exact Or.inl e
        · have ht2 := Ch_mem os hC ht
          have ht3 := okO_3 ht2.2.2
          refine Or.inr ⟨t, e, by omega, ?_⟩
          rcases Nat.lt_trichotomy t b with hl2 | hl2 | hl2
          · have := Ch_sep os hC ht hbo hl2; omega
          · omega
          · have := Ch_sep os hC hbo ht hl2; omega)
      have hhd : ∀ c ∈ os, ∀ i, i < 3 → f1 (c + i) = o_fw σ (c + i) := fun c hc i hi => by
        rcases Nat.lt_trichotomy c b with hl2 | hl2 | hl2
        · have h5 := Ch_sep os hC hc hbo hl2
          have h6 := okO_3 (Ch_mem os hC hc).2.2
          exact g3 _ (Or.inl (by omega))
        · subst hl2; exact g3 _ (Or.inl (by omega))
        · have := Ch_sep os hC hbo hc hl2
          exact g3 _ (Or.inr (by omega))
      have hin : ∀ c ∈ r, ∀ i, f1 (c + i) = o_fw σ (c + i) := fun c hc i => by
        have := (Ch_mem r hr hc).1
        exact g3 _ (Or.inr (by omega))
      have hin0 : ∀ c ∈ r, f1 c = o_fw σ c := fun c hc => hin c hc 0
      obtain ⟨σ1, h9⟩ : ∃ s9, s9 = o_s_fw σ f1 := ⟨_, rfl⟩
      have hf9 : o_fw σ1 = f1 := by rw [h9]; rfl
      have hlw9 : o_lw σ1 = o_lw σ := by rw [h9]; rfl
      have hus9 : o_us σ1 = o_us σ := by rw [h9]; rfl
      have hchd : ∀ c ∈ r, ∀ x, chd f1 c x → chd (o_fw σ) c x := fun c hc x hx => by
        unfold chd at hx ⊢
        rw [lk_congr (hin0 c hc), vl_congr (hin0 c hc)] at hx
        have hi := hin c hc
        rcases hx with ⟨i, h5, h6⟩ | ⟨j, h5, h6, h7⟩
        · exact Or.inl ⟨i, h5, by rw [← h6, show c + 3 + i = c + (3 + i) by omega, hi]⟩
        · rw [show c + 3 + lk (o_fw σ) c + 2 * j = c + (3 + lk (o_fw σ) c + 2 * j) by omega, hi] at h6
          rw [show c + 3 + lk (o_fw σ) c + 2 * j + 1 = c + (3 + lk (o_fw σ) c + 2 * j + 1) by omega, hi] at h7
          exact Or.inr ⟨j, h5, by rw [show c + 3 + lk (o_fw σ) c + 2 * j = c + (3 + lk (o_fw σ) c + 2 * j) by omega]; exact h6, by rw [show c + 3 + lk (o_fw σ) c + 2 * j + 1 = c + (3 + lk (o_fw σ) c + 2 * j + 1) by omega]; exact h7⟩
      obtain ⟨f', h1, h2, h3, h4⟩ := P_leads (K := K) (v1 := v1) hF r n (b + sz (o_fw σ) b) σ1 (by rw [hf9]; exact Ch_congr os (fun c hc => hhd c hc 0 (by omega)) hC) (by rw [hf9]; exact Ch_congr r hin0 hr) (fun c hc => hsub c (List.mem_cons_of_mem _ hc)) (hus9.trans hu) (by omega) (by omega) (by omega) (fun c hc hmc x hx => by
        rw [hf9] at hmc hx
        rw [hin c hc 1] at hmc
        exact hv c (List.mem_cons_of_mem _ hc) hmc x (hchd c hc x hx))
      have hmp : ∀ x, (x = -1 ∨ ∃ t ∈ os, x = nI t) → mp f1 x = mp (o_fw σ) x := fun x hx => mp_eq (U := U) (by omega) hx (fun t ht => by have := Ch_mem os hC ht; have := okO_3 this.2.2; omega) (fun t ht => hhd t ht 1 (by omega))
      refine ⟨f', ?_, fun c hc hmc => ?_, fun c hc hmc i hi => ?_, fun x hx => ?_⟩
      · rw [cIf_f hm, g1]
        show bnd (fX0_sizeAt F (o_s_fw σ f1) (nI b)) _ = _
        have hb0 : f1 b = o_fw σ b := hhd b hbo 0 (by omega)
        rw [← h9, P_sizeAt (σ := σ1) (by omega) (by omega) (by rw [hf9]; exact (okO_congr hb0 ho).1), hf9, sz_congr hb0]
        show LX0_slideTogether_67 F K v1 n (nI b + cIf ((3 : Int32) < nI (sz (o_fw σ) b)) (nI (sz (o_fw σ) b)) 3) σ1 = _
        rw [mx3 (by omega) (by omega), nI_add, h1, h9]
        rfl
      · rcases List.mem_cons.mp hc with e | hc
        · subst e
          obtain ⟨p1, p2, p3, p4⟩ := g2
          have hz := ho.2
          have hf' : ∀ i, i < sz (o_fw σ) c → f' (c + i) = f1 (c + i) := fun i hi => by rw [← hf9]; exact h4 _ (Or.inl (by omega))
          refine ⟨fun i hi => by rw [hf' i (by omega)]; exact p1 i hi, fun i hi => ?_, fun j hj => ?_, fun i hi1 hi2 => by rw [hf' i hi2]; exact p4 i hi1 hi2⟩
          · rw [show c + 3 + i = c + (3 + i) by omega, hf' (3 + i) (by omega), show c + (3 + i) = c + 3 + i by omega]
            exact p2 i hi
          · obtain ⟨q1, q2, q3⟩ := p3 j hj
            have e1 : f' (c + 3 + lk (o_fw σ) c + 2 * j) = f1 (c + 3 + lk (o_fw σ) c + 2 * j) := by
              rw [show c + 3 + lk (o_fw σ) c + 2 * j = c + (3 + lk (o_fw σ) c + 2 * j) by omega]; exact hf' _ (by omega)
            have e2 : f' (c + 3 + lk (o_fw σ) c + 2 * j + 1) = f1 (c + 3 + lk (o_fw σ) c + 2 * j + 1) := by
              rw [show c + 3 + lk (o_fw σ) c + 2 * j + 1 = c + (3 + lk (o_fw σ) c + 2 * j + 1) by omega]; exact hf' _ (by omega)
            rw [e1, e2]
            exact ⟨q1, q2, q3⟩
        · have hmc1 : ¬ o_fw σ1 (c + 1) = -1 := by rw [hf9, hin c hc 1]; exact hmc
          obtain ⟨p1, p2, p3, p4⟩ := h2 c hc hmc1
          have hi := hin c hc
          rw [hf9] at p1 p2 p3 p4
          rw [lk_congr (hin0 c hc)] at p2 p3 p4
          rw [vl_congr (hin0 c hc)] at p3 p4
          rw [sz_congr (hin0 c hc)] at p4
          refine ⟨fun i h5 => by rw [p1 i h5, hi], fun i h5 => ?_, fun j hj => ?_, fun i h5 h6 => by rw [p4 i h5 h6, hi]⟩
          · have h7 := p2 i h5
            have e1 : f1 (c + 3 + i) = o_fw σ (c + 3 + i) := by rw [show c + 3 + i = c + (3 + i) by omega]; exact hi _
            rw [e1] at h7
            rw [h7]
            exact hmp _ (hv c (List.mem_cons_of_mem _ hc) hmc _ (Or.inl ⟨i, h5, rfl⟩))
          · obtain ⟨q1, q2, q3⟩ := p3 j hj
            have e1 : f1 (c + 3 + lk (o_fw σ) c + 2 * j) = o_fw σ (c + 3 + lk (o_fw σ) c + 2 * j) := by rw [show c + 3 + lk (o_fw σ) c + 2 * j = c + (3 + lk (o_fw σ) c + 2 * j) by omega]; exact hi _
            have e2 : f1 (c + 3 + lk (o_fw σ) c + 2 * j + 1) = o_fw σ (c + 3 + lk (o_fw σ) c + 2 * j + 1) := by rw [show c + 3 + lk (o_fw σ) c + 2 * j + 1 = c + (3 + lk (o_fw σ) c + 2 * j + 1) by omega]; exact hi _
            rw [e1] at q1 q2 q3
            rw [e2] at q2 q3
            refine ⟨q1, fun hR => ?_, q3⟩
            rw [q2 hR]
            exact hmp _ (hv c (List.mem_cons_of_mem _ hc) hmc _ (Or.inr ⟨j, hj, hR, rfl⟩))
      · rcases List.mem_cons.mp hc with e | hc
        · exact absurd (e ▸ hmc) hm
        · have hmc1 : o_fw σ1 (c + 1) = -1 := by rw [hf9, hin c hc 1]; exact hmc
          have h5 := h3 c hc hmc1 i (by rw [hf9, sz_congr (hin0 c hc)]; exact hi)
          rw [h5, hf9]
          exact hin c hc i
      · rw [h4 x (by omega), hf9]
        exact g3 x (by omega)
