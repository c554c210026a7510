/-! marking: to its end -/
theorem MK_loop {F : Nat} {σ0 : oS} {os : List Nat} {U : Nat} {K : Int32 → oS → Option oS} (hF : 20 < F) (hG : GI σ0 os U) (k : Nat) : ∀ (n left : Nat) (σ : oS) (wl : List Nat), umk (o_fw σ) os + wl.length = k → k ≤ left → left < 2 ^ 31 → k < n → MK σ0 os σ wl (fun _ => False) →
    ∃ σ' left', LX0_slideTogether_10 F K n (nI left) σ = K left' σ' ∧ MK σ0 os σ' [] (fun _ => False) ∧ ∀ d ∈ os, mkd σ d → mkd σ' d := by
  obtain ⟨hC, hU, hl, hPV⟩ := id hG
  induction k with
  | zero =>
    intro n left σ wl hk hlf hl31 hn hI
    obtain ⟨n, rfl⟩ : ∃ m, n = m + 1 := ⟨n - 1, by omega⟩
    have e : wl = [] := List.length_eq_zero_iff.mp (by omega)
    subst e
    refine ⟨σ, nI left, ?_, hI, fun _ _ h => h⟩
    rw [LX0_slideTogether_10]
    by_cases h0 : nI left ≤ 0
    · rw [cIf_t h0]
    · rw [cIf_f h0, cIf_t (show o_wt σ = -1 from hI.2.1)]
  | succ k ih =>
    intro n left σ wl hk hlf hl31 hn hI
    obtain ⟨n, rfl⟩ : ∃ m, n = m + 1 := ⟨n - 1, by omega⟩
    cases wl with
    | nil =>
      refine ⟨σ, nI left, ?_, hI, fun _ _ h => h⟩
      rw [LX0_slideTogether_10]
      by_cases h0 : nI left ≤ 0
      · rw [cIf_t h0]
      · rw [cIf_f h0, cIf_t (show o_wt σ = -1 from hI.2.1)]
    | cons a wl =>
      obtain ⟨hM, hW, hR, hcl⟩ := hI
      obtain ⟨w1, w2, w3, w4⟩ := hW
      have hma := Ch_mem os hC w2
      have hma3 := okO_3 hma.2.2
      have hlw := hM.lw
      have hI8 : MK σ0 os (o_s_wt σ (o_fw σ (a + 2))) wl (fun z => z = a) := by
        refine ⟨hM.wt, w4, hR, fun z hz hmz hnw hnc b hb hch => ?_⟩
        exact hcl z hz hmz (fun q => by rcases List.mem_cons.mp q with e | q; exact hnc e; exact hnw q) (fun q => q) b hb hch
      obtain ⟨σ9, wl9, h1, h2, h3, h4, h5⟩ := P_touchLeads0 (F := F) hF hG w2 (hR a w2 w3) hI8
      have hI9 : MK σ0 os σ9 wl9 (fun _ => False) := by
        refine ⟨h2.1, h2.2.1, h2.2.2.1, fun z hz hmz hnw hnc b hb hch => ?_⟩
        by_cases hza : z = a
        · subst hza
          exact h3 b hb hch
        · exact h2.2.2.2 z hz hmz hnw hza b hb hch
      have hk9 : umk (o_fw σ9) os + wl9.length = k := by
        have e2 : umk (o_fw (o_s_wt σ (o_fw σ (a + 2)))) os = umk (o_fw σ) os := rfl
        simp only [List.length_cons] at hk
        omega
      obtain ⟨σ', left', g1, g2, g3⟩ := ih n (left - 1) σ9 wl9 hk9 (by omega) (by omega) (by omega) hI9
      refine ⟨σ', left', ?_, g2, fun d hd q => g3 d hd (h4 d hd q)⟩
      rw [LX0_slideTogether_10, cIf_f (nI_nle (by omega) (by omega)), w1, cIf_f (nI_nm1 (by omega))]
      show ck (vp_in (nI a + 2) (o_lw σ)) (nmd (o_fw σ (nI a + 2).toNatClampNeg) _) = _
      rw [nI_p2]
      rw [ck_t (vp_in_nI (by omega) (by omega)), nI_clamp (by omega)]
      show bnp (fX0_touchLeads F (o_s_wt σ (o_fw σ (a + 2))) (nI a) 0) _ = _
      rw [h1]
      show LX0_slideTogether_10 F K n (nI left + (-1)) σ9 = _
      rw [sb_m1 (by omega)]
      exact g1
/-- the marks are found: just what a root leads to -/
def MD (σ0 : oS) (os : List Nat) (σ : oS) : Prop := MSt σ0 os σ ∧ o_wt σ = -1 ∧ ∀ a ∈ os, mkd σ a ↔ Rch (o_fw σ0) os (o_fr σ0) a
theorem umk_le (f : Nat → Int32) (os : List Nat) : umk f os ≤ os.length := List.length_filter_le _ _
/-- before a collection: nothing is marked, nothing waits -/
def Qt (σ : oS) (os : List Nat) : Prop := o_wt σ = -1 ∧ ∀ a ∈ os, o_fw σ (a + 1) = -1
theorem P_mark {F : Nat} {σ0 : oS} {os : List Nat} {U : Nat} (hF : 1048600 < F) (hG : GI σ0 os U) (hQ : Qt σ0 os) (hu : o_us σ0 = nI U) :
    ∃ σ left, fX0_slideTogether F σ0 = JX0_slideTogether_51 F σ left ∧ MD σ0 os σ := by
  obtain ⟨hC, hU, hl, hPV⟩ := id hG
  have hI0 : MK σ0 os σ0 [] (fun _ => False) := ⟨MSt.rf, hQ.1, fun a ha h => absurd (hQ.2 a ha) h, fun a ha h => absurd (hQ.2 a ha) h⟩
  obtain ⟨σ1, wl1, h1, h2, h3, h5⟩ := P_touchRoots0 (F := F) (by omega) hG hI0
  have hlen := Ch_len os hC
  have hum := umk_le (o_fw σ0) os
  have hus : o_us σ1 = nI U := by obtain ⟨g, w, e, -⟩ := h2.1; rw [e]; exact hu
  obtain ⟨σ2, left, g1, g2, g3⟩ := MK_loop (F := F) (K := fun w11 σ12 => JX0_slideTogether_51 F σ12 w11) (by omega) hG _ F U σ1 wl1 rfl (by simp only [List.length_nil] at h5; omega) (by omega) (by simp only [List.length_nil] at h5; omega) h2
  refine ⟨σ2, left, ?_, g2.1, g2.2.1, fun a ha => ⟨fun q => g2.2.2.1 a ha q, fun q => ?_⟩⟩
  · unfold fX0_slideTogether
    rw [h1]
    show LX0_slideTogether_10 F _ F (o_us σ1) σ1 = _
    rw [hus]
    exact g1
  · exact q (fun b => mkd σ2 b) (fun r hr b hb e => g3 b hb (h3 r hr b hb e)) (fun b hb hm c hc hch => g2.2.2.2 b hb hm (fun q => nomatch q) (fun q => q) c hc hch)
