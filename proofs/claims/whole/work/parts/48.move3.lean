/-! all objects slide to their places -/
theorem P_moveAll {F : Nat} {K : Int32 → oS → Option oS} {U : Nat} {f5 : Nat → Int32} : ∀ (r : List Nat) (n a e : Nat) (v : Int32) (σ : oS), Ch f5 a r U → (∀ x, a ≤ x → o_fw σ x = f5 x) → o_us σ = nI U → U ≤ o_lw σ → o_lw σ ≤ 1048576 → e ≤ a → r.length < n → (∀ b ∈ r, ¬ f5 (b + 1) = -1 → f5 (b + 1) = nI (psi (sz f5) (mbf f5) r e b)) →
    ∃ f', LX0_moveAll_4 F (fun _ => K) n v (nI a) σ = K (nI U) (o_s_fw σ f') ∧ (∀ x, x < e → f' x = o_fw σ x) ∧ ∀ b ∈ r, ¬ f5 (b + 1) = -1 → ∀ i, i < sz f5 b → f' (psi (sz f5) (mbf f5) r e b + i) = if i = 1 then -1 else f5 (b + i)
  | [], n, a, e, v, σ, hC, hf, hu, hU, hl, he, hn, hp => by
    obtain ⟨n, rfl⟩ : ∃ m, n = m + 1 := ⟨n - 1, by simp at hn; omega⟩
    have e1 : a = U := hC
    subst e1
    refine ⟨o_fw σ, ?_, fun _ _ => rfl, (fun b hb => nomatch hb)⟩
    rw [LX0_moveAll_4, hu, cIf_t (nI_le (Nat.le_refl _) (by omega))]
    rfl
  | b :: r, n, a, e, v, σ, hC, hf, hu, hU, hl, he, hn, hp => by
    obtain ⟨n, rfl⟩ : ∃ m, n = m + 1 := ⟨n - 1, by simp at hn; omega⟩
    simp only [List.length_cons] at hn
    obtain ⟨e1, ho, hC⟩ := hC
    subst e1
    have hb1 := Ch_le r hC
    have hb3 := okO_3 ho
    have hnd : b ∉ r := fun q => by have := (Ch_mem r hC q).1; omega
    have hfb : o_fw σ b = f5 b := hf b (Nat.le_refl _)
    have hgt : ∀ c ∈ r, b ≠ c := fun c hc q => hnd (q ▸ hc)
    generalize hz : sz f5 b = z at *
    have hsz : fX0_sizeAt F σ (nI b) = some (nI z, σ) := by
      rw [P_sizeAt (by omega) (by omega) (okO_congr hfb ho).1, sz_congr hfb, hz]
    have hne : ∀ x, x ≠ b + 1 → upd (o_fw σ) (b + 1) (-1) x = o_fw σ x := fun x hx => by unfold upd; rw [if_neg hx]
    have hat : upd (o_fw σ) (b + 1) (-1) (b + 1) = -1 := by unfold upd; rw [if_pos rfl]
    have hval : ∀ i, upd (o_fw σ) (b + 1) (-1) (b + i) = if i = 1 then -1 else f5 (b + i) := fun i => by
      by_cases h1 : i = 1
      · subst h1; rw [if_pos rfl]; exact hat
      · rw [if_neg h1, hne _ (by omega), hf _ (by omega)]
    rw [LX0_moveAll_4, hu, cIf_f (nI_ge (by omega) (by omega)), hsz]
    show ∃ f', (ck (vp_in (nI b + 1) (o_lw σ)) (nmd (o_fw σ (nI b + 1).toNatClampNeg) _)) = _ ∧ _
    rw [nI_1, ck_t (vp_in_nI (by omega) (by omega)), nI_clamp (by omega), hf (b + 1) (by omega)]
    show ∃ f', (ck (vp_in (nI (b + 1)) (o_lw σ)) (nmd (o_s_fw σ (upd (o_fw σ) (b + 1) (-1))) _)) = _ ∧ _
    rw [ck_t (vp_in_nI (by omega) (by omega))]
    obtain ⟨σ7, h7⟩ : ∃ s9, s9 = o_s_fw σ (upd (o_fw σ) (b + 1) (-1)) := ⟨_, rfl⟩
    have hf7 : o_fw σ7 = upd (o_fw σ) (b + 1) (-1) := by rw [h7]; rfl
    have hlw7 : o_lw σ7 = o_lw σ := by rw [h7]; rfl
    have hus7 : o_us σ7 = o_us σ := by rw [h7]; rfl
    rw [← h7]
    show ∃ f', cIf (f5 (b + 1) = -1) (LX0_moveAll_4 F (fun _ => K) n (nI z) (nI b + cIf ((3 : Int32) < nI z) (nI z) 3) σ7) (cIf (nI b ≤ f5 (b + 1)) (LX0_moveAll_4 F (fun _ => K) n (nI z) (nI b + cIf ((3 : Int32) < nI z) (nI z) 3) σ7) _) = _ ∧ _
    rw [mx3 (by omega) (by omega), nI_add]
    by_cases hm : f5 (b + 1) = -1
    · have hmb : mbf f5 b = false := mbf_f.mpr hm
      have htl : ∀ c ∈ r, psi (sz f5) (mbf f5) (b :: r) e c = psi (sz f5) (mbf f5) r e c := fun c hc => by
        rw [psi_tl (Ne.symm (hgt c hc)), if_neg (by rw [hmb]; decide)]
      obtain ⟨f', h1, h2, h3⟩ := P_moveAll (K := K) r n (b + z) e (nI z) σ7 hC (fun x hx => by rw [hf7, hne x (by omega)]; exact hf x (by omega)) (hus7.trans hu) (by omega) (by omega) (by omega) (by omega) (fun c hc hmc => by rw [← htl c hc]; exact hp c (List.mem_cons_of_mem _ hc) hmc)
      refine ⟨f', ?_, fun x hx => ?_, fun c hc hmc i hi => ?_⟩
      · rw [cIf_t hm, h1, h7]; rfl
      · rw [h2 x hx, hf7]; exact hne x (by omega)
      · rcases List.mem_cons.mp hc with e2 | hc
        · exact absurd (e2 ▸ hm) hmc
        · rw [htl c hc]; exact h3 c hc hmc i hi
    · have hmb : mbf f5 b = true := mbf_t.mpr hm
      have hto : f5 (b + 1) = nI e := by rw [hp b List.mem_cons_self hm, psi_hd]
      have htl : ∀ c ∈ r, psi (sz f5) (mbf f5) (b :: r) e c = psi (sz f5) (mbf f5) r (e + z) c := fun c hc => by
        rw [psi_tl (Ne.symm (hgt c hc)), if_pos hmb, hz]
      rw [cIf_f hm, hto]
      by_cases hle : b ≤ e
      · have ee : e = b := by omega
        subst ee
        obtain ⟨f', h1, h2, h3⟩ := P_moveAll (K := K) r n (e + z) (e + z) (nI z) σ7 hC (fun x hx => by rw [hf7, hne x (by omega)]; exact hf x (by omega)) (hus7.trans hu) (by omega) (by omega) (by omega) (by omega) (fun c hc hmc => by rw [← htl c hc]; exact hp c (List.mem_cons_of_mem _ hc) hmc)
        refine ⟨f', ?_, fun x hx => ?_, fun c hc hmc i hi => ?_⟩
        · rw [cIf_t (nI_le (by omega) (by omega)), h1, h7]; rfl
        · rw [h2 x (by omega), hf7]; exact hne x (by omega)
        · rcases List.mem_cons.mp hc with e2 | hc
          · subst e2
            rw [hz] at hi
            rw [psi_hd, h2 _ (by omega), hf7]
            exact hval i
          · rw [htl c hc]; exact h3 c hc hmc i hi
      · have hc1 : ∀ x, e ≤ x → x < e + z → va_cpy (o_fw σ7) (o_fw σ7) b e z x = o_fw σ7 (b + (x - e)) := fun x h1 h2 => pk_cpy_in h1 h2
        have hc2 : ∀ x, x < e ∨ e + z ≤ x → va_cpy (o_fw σ7) (o_fw σ7) b e z x = o_fw σ7 x := fun x h1 => pk_cpy_out h1
        obtain ⟨σ8, h8⟩ : ∃ s9, s9 = o_s_fw σ7 (va_cpy (o_fw σ7) (o_fw σ7) b e z) := ⟨_, rfl⟩
        have hf8 : o_fw σ8 = va_cpy (o_fw σ7) (o_fw σ7) b e z := by rw [h8]; rfl
        have hlw8 : o_lw σ8 = o_lw σ := by rw [h8]; exact hlw7
        have hus8 : o_us σ8 = o_us σ := by rw [h8]; exact hus7
        obtain ⟨f', h1, h2, h3⟩ := P_moveAll (K := K) r n (b + z) (e + z) (nI z) σ8 hC (fun x hx => by rw [hf8, hc2 x (Or.inr (by omega)), hf7, hne x (by omega)]; exact hf x (by omega)) (hus8.trans hu) (by omega) (by omega) (by omega) (by omega) (fun c hc hmc => by rw [← htl c hc]; exact hp c (List.mem_cons_of_mem _ hc) hmc)
        refine ⟨f', ?_, fun x hx => ?_, fun c hc hmc i hi => ?_⟩
        · rw [cIf_f (nI_ge (by omega) (by omega)), ck_t (by
            rw [nI_clamp (by omega), nI_clamp (by omega), nI_clamp (by omega)]
            exact ⟨nI_pos (by omega), nI_pos (by omega), nI_pos (by omega), by omega, by omega⟩), nI_clamp (by omega), nI_clamp (by omega), nI_clamp (by omega)]
          show LX0_moveAll_4 F (fun _ => K) n (nI z) (nI b + nI z) (o_s_fw σ7 (va_cpy (o_fw σ7) (o_fw σ7) b e z)) = _
          rw [nI_add, ← h8, h1, h8, h7]; rfl
        · rw [h2 x (by omega), hf8, hc2 x (Or.inl hx), hf7]; exact hne x (by omega)
        · rcases List.mem_cons.mp hc with e2 | hc
          · subst e2
            rw [hz] at hi
            rw [psi_hd, h2 _ (by omega), hf8, hc1 _ (by omega) (by omega), hf7, show e + i - e = i by omega]
            exact hval i
          · rw [htl c hc]; exact h3 c hc hmc i hi
