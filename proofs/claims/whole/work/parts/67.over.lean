/-! a joined text is gone over -/
def Pd (fp : Nat → Int32) : List (Nat × Nat) → Prop
  | [] => True
  | x :: st => fp st.length = nI x.1 ∧ Pd fp st
def Ln (μ : mS) : List (Nat × Nat) → Nat
  | [] => 0
  | x :: st => mlen μ x.2 + Ln μ st
def Us (μ : mS) : List (Nat × Nat) → Nat → Nat
  | [], _ => 0
  | x :: st, j => if j < mlen μ x.2 then uo μ x.2 j else Us μ st (j - mlen μ x.2)
theorem Pd_un {fp : Nat → Int32} {i : Nat} {w : Int32} : ∀ st : List (Nat × Nat), st.length ≤ i → Pd fp st → Pd (upd fp i w) st
  | [], _, h => h
  | x :: st, hl, h => ⟨by rw [pk_un (by simp only [List.length_cons] at hl; omega)]; exact h.1, Pd_un st (by simp only [List.length_cons] at hl; omega) h.2⟩
theorem Ln_ge {μ : mS} : ∀ st : List (Nat × Nat), (∀ x ∈ st, 1 ≤ mlen μ x.2) → st.length ≤ Ln μ st
  | [], _ => Nat.le_refl _
  | x :: st, h => by
    have h1 := h x List.mem_cons_self
    have h2 := Ln_ge st (fun y hy => h y (List.mem_cons_of_mem _ hy))
    rw [List.length_cons, Ln]
    omega
theorem Rd.T {σ : oS} {μ : mS} {R : Nat → Nat → Prop} {U M b p : Nat} (h : Rd σ μ R U M) (hR : R b p) (h1 : 1 ≤ mlen μ p) : ObT (o_fw σ) μ R b p := by
  obtain ⟨q1, q2, q3, q4, q5⟩ := h.1 b p hR
  rcases q5.2 with hb | ht
  · have e := hb.2.2.2.2.2.2.2.2.2.2
    have : mlen μ p = 0 := by unfold mlen; rw [e]; rfl
    omega
  · exact ht
theorem P_cau {F : Nat} {μ : mS} {U M n W : Nat} {R : Nat → Nat → Prop} {v1 : Int32} (hF : 4100 < F) (hn : n ≤ 4000) (hW : n ≤ 2 * W) (s : Nat) : ∀ (m d : Nat) (st : List (Nat × Nat)) (σ : oS), s < m → s ≤ 8000 → Rd σ μ R U M → U + 4 + W ≤ o_lw σ → Pd (o_fp σ) st → (∀ x ∈ st, R x.1 x.2 ∧ 1 ≤ mlen μ x.2) → d + Ln μ st = n → 2 * Ln μ st ≤ s + st.length → st.length ≤ 3977 → (∀ j, d ≤ j → j < n → un (o_fw σ) U j = 0) →
    ∃ g y, LX0_copyAllUnits_17 F (fun w31 w32 w33 σ34 => some σ34) v1 (nI U) m (nI d) (nI st.length) (nI s) σ = some (o_s_fw (o_s_fp σ y) g) ∧ (∀ x, x < U + 4 ∨ U + 4 + W ≤ x → g x = o_fw σ x) ∧ ∀ j, un g U j = if d ≤ j ∧ j < n then Us μ st (j - d) else un (o_fw σ) U j := by
  induction s with
  | zero =>
    intro m d st σ hm hs hR hlw hP hst hd hL hc h0
    obtain ⟨m, rfl⟩ : ∃ q, m = q + 1 := ⟨m - 1, by omega⟩
    have hg := Ln_ge st (fun x hx => (hst x hx).2)
    refine ⟨o_fw σ, o_fp σ, ?_, fun _ _ => rfl, fun j => ?_⟩
    · rw [LX0_copyAllUnits_17, cIf_t (show nI 0 ≤ 0 by decide)]
      rfl
    · rw [if_neg (by omega)]
  | succ s ih =>
    intro m d st σ hm hs hR hlw hP hst hd hL hc h0
    obtain ⟨m, rfl⟩ : ∃ q, m = q + 1 := ⟨m - 1, by omega⟩
    have e0 : ¬ nI (s + 1) ≤ 0 := nI_ge (a := 0) (b := s + 1) (by omega) (by omega)
    cases st with
    | nil =>
      refine ⟨o_fw σ, o_fp σ, ?_, fun _ _ => rfl, fun j => ?_⟩
      · rw [LX0_copyAllUnits_17, cIf_f e0, cIf_t (show nI ([] : List (Nat × Nat)).length ≤ 0 from by decide)]
        rfl
      · rw [Ln] at hd
        rw [if_neg (by omega)]
    | cons x st =>
      obtain ⟨b, p⟩ := x
      have hst1 : R b p ∧ 1 ≤ mlen μ p := hst (b, p) List.mem_cons_self
      obtain ⟨hRb, hl1⟩ := hst1
      obtain ⟨hP1, hP2⟩ := hP
      have hT := hR.T hRb hl1
      obtain ⟨q1, q2, q3, q4, q5⟩ := hR.1 b p hRb
      have r2 := hR.2.1
      have r3 := hR.2.2.1
      have r5 := hR.2.2.2.2.1
      have r6 := hR.2.2.2.2.2
      have h3 := okO_3 q1
      have hg := Ln_ge st (fun x hx => (hst x (List.mem_cons_of_mem _ hx)).2)
      obtain ⟨l1, l2, l3, l4⟩ := ObT_len hT
      have hd' : d + (mlen μ p + Ln μ st) = n := hd
      have hL' : 2 * (mlen μ p + Ln μ st) ≤ s + 1 + (st.length + 1) := hL
      have hc' : st.length + 1 ≤ 3977 := hc
      have hP1' : o_fp σ st.length = nI b := hP1
      have ev : LX0_copyAllUnits_17 F (fun w31 w32 w33 σ34 => some σ34) v1 (nI U) (m + 1) (nI d) (nI (st.length + 1)) (nI (s + 1)) σ = cIf (nI (kd (o_fw σ) b) = 3) (ck (vp_in (nI b + 4) (o_lw σ)) (nmd (o_fw σ (nI b + 4).toNatClampNeg) (fun x22 => ck (vp_in (nI st.length) 4000) (nmd (o_s_fp σ (upd (o_fp σ) (nI st.length).toNatClampNeg x22)) (fun σ24 => ck (vp_in (nI b + 3) (o_lw σ24)) (nmd (o_fw σ24 (nI b + 3).toNatClampNeg) (fun x26 => ck (vp_in (nI (st.length + 1)) 4000) (nmd (o_s_fp σ24 (upd (o_fp σ24) (nI (st.length + 1)).toNatClampNeg x26)) (fun σ28 => nmd (nI (st.length + 1) + 1) (fun x29 => nmd (nI (s + 1) + (-1)) (fun x30 => LX0_copyAllUnits_17 F (fun w31 w32 w33 σ34 => some σ34) v1 (nI U) m (nI d) x29 x30 σ28))))))))))) (bnd (fX0_flatOf F σ (nI b)) (fun r12 σ11 => bnd (fX0_lengthAt F σ11 (nI b)) (fun r14 σ13 => bnp (fX0_copyUnits F σ13 r12 0 r14 (nI U) (nI d)) (fun σ15 => bnd (fX0_lengthAt F σ15 (nI b)) (fun r17 σ16 => nmd (nI d + r17) (fun x18 => nmd (nI (st.length + 1) + (-1)) (fun x19 => nmd (nI (s + 1) + (-1)) (fun x20 => LX0_copyAllUnits_17 F (fun w31 w32 w33 σ34 => some σ34) v1 (nI U) m x18 x19 x20 σ16)))))))) := by
        rw [LX0_copyAllUnits_17, cIf_f e0, cIf_f (show ¬ nI (st.length + 1) ≤ 0 from nI_ge (a := 0) (b := st.length + 1) (by omega) (by omega)), cIf_f (show ¬ (4000 : Int32) ≤ nI (st.length + 1) from nI_ge (a := st.length + 1) (b := 4000) (by omega) (by omega)), nI_pred, ck_t (vp_in_nI (by omega) (by omega)), nI_clamp (n := st.length) (by omega), nmd_v, hP1', P_kindAt (by omega) r3 q1.1, bnd_s]
      rw [List.length_cons, ev, pk_m1 s]
      by_cases hk : kd (o_fw σ) b = 3
      · obtain ⟨t1, t2, t3, k, t4, t5, t6, ht⟩ := id hT
        have ek : mlen μ p = k := by unfold mlen; rw [t5, nI_clamp (by omega)]
        rcases ht with ⟨e | e, -⟩ | ⟨-, x2, x3, x4, x5, ⟨a1, o1, y1, y2, y3⟩, a2, o2, z1, z2, z3⟩ | ⟨e, -⟩
        · omega
        · omega
        · obtain ⟨-, -, hmt⟩ := r5 p q3 q4
          rcases hmt with ⟨e, -⟩ | ⟨e, -⟩ | ⟨-, u1, u2, f1, f2, f3, f4, f5, f6, f7, f8, f9⟩
          · exact absurd (e.symm.trans x5) (by decide)
          · exact absurd (e.symm.trans x5) (by decide)
          · obtain ⟨-, -, w3, w4, -⟩ := hR.1 a1 o1 y3
            obtain ⟨-, -, v3, v4, -⟩ := hR.1 a2 o2 z3
            have e1 : o1 = u1 := nI_inj (by omega) (by omega) (y2.symm.trans f1)
            have e2 : o2 = u2 := nI_inj (by omega) (by omega) (z2.symm.trans f2)
            subst e1; subst e2
            obtain ⟨g, y, g1, g2, g3⟩ := ih m d ((a1, o1) :: (a2, o2) :: st) (o_s_fp (o_s_fp σ (upd (o_fp σ) st.length (nI a2))) (upd (upd (o_fp σ) st.length (nI a2)) (st.length + 1) (nI a1))) (by omega) (by omega) (hR.keep (fun _ _ => rfl) rfl (Nat.le_refl _) r3) hlw ⟨pk_us, (pk_un (by omega)).trans pk_us, Pd_un st (by omega) (Pd_un st (by omega) hP2)⟩ (fun x hx => by
              rcases List.mem_cons.mp hx with e | hx
              · rw [e]; exact ⟨y3, f8⟩
              · rcases List.mem_cons.mp hx with e | hx
                · rw [e]; exact ⟨z3, f9⟩
                · exact hst x (List.mem_cons_of_mem _ hx)) (by rw [Ln, Ln]; show d + (mlen μ o1 + (mlen μ o2 + Ln μ st)) = n; omega) (by rw [Ln, Ln, List.length_cons, List.length_cons]; show 2 * (mlen μ o1 + (mlen μ o2 + Ln μ st)) ≤ _; omega) (by rw [List.length_cons, List.length_cons]; omega) h0
            refine ⟨g, y, ?_, g2, fun j => ?_⟩
            · rw [cIf_t (by rw [hk]; rfl), nI_p4, ck_t (vp_in_nI (by omega) (by omega)), nI_clamp (n := b + 4) (by omega), nmd_v, z1, ck_t (vp_in_nI (by omega) (by omega)), nI_clamp (n := st.length) (by omega), nmd_v, nI_p3]
              show ck (vp_in (nI (b + 3)) (o_lw σ)) (nmd (o_fw σ (nI (b + 3)).toNatClampNeg) _) = _
              rw [ck_t (vp_in_nI (by omega) (by omega)), nI_clamp (n := b + 3) (by omega), nmd_v, y1, ck_t (vp_in_nI (by omega) (by omega)), nI_clamp (n := st.length + 1) (by omega), nmd_v, nmd_v, nmd_v, nI_1]
              exact g1
            · rw [g3 j]
              by_cases hc : d ≤ j ∧ j < n
              · rw [if_pos hc, if_pos hc]
                have eu := uo_2 (k := j - d) r6 r5 q3 q4 x5 f1 f2 f3 f4 f5 f6
                rw [Us, Us, Us]
                show (if j - d < mlen μ o1 then uo μ o1 (j - d) else if j - d - mlen μ o1 < mlen μ o2 then uo μ o2 (j - d - mlen μ o1) else Us μ st (j - d - mlen μ o1 - mlen μ o2)) = if j - d < mlen μ p then uo μ p (j - d) else Us μ st (j - d - mlen μ p)
                rw [eu]
                by_cases c1 : j - d < mlen μ o1
                · rw [if_pos c1, if_pos (by omega), if_pos c1]
                · rw [if_neg c1]
                  by_cases c2 : j - d - mlen μ o1 < mlen μ o2
                  · rw [if_pos c2, if_pos (by omega), if_neg c1]
                  · rw [if_neg c2, if_neg (by omega), f7]
                    congr 1
                    omega
              · rw [if_neg hc, if_neg hc]
                rfl
        · omega
      · obtain ⟨c, c1, c2⟩ := P_flatOf (F := F) hR hRb hT hk
        obtain ⟨d1, d2, d3, d4, d5, d6, d7⟩ := id c2
        have h3c := okO_3 d1
        obtain ⟨g1, e1, e2, e3⟩ := P_copyUnits (F := F) (σ := σ) (a := c) (b := U) (W := W) (frm := 0) (to := mlen μ p) (pos := d) hF (by omega) (by omega) l2 (by omega) hlw r3 (fun j h1 h2 => h0 j h1 (by omega))
        have e1' : fX0_copyUnits F σ (nI c) 0 (nI (mlen μ p)) (nI U) (nI d) = some (o_s_fw σ g1) := e1
        have hR1 : Rd (o_s_fw σ g1) μ R U M := hR.keep (fun x hx => e2 x (by omega)) rfl (Nat.le_refl _) r3
        obtain ⟨g, y, f1, f2, f3⟩ := ih m (d + mlen μ p) st (o_s_fw σ g1) (by omega) (by omega) hR1 hlw hP2 (fun x hx => hst x (List.mem_cons_of_mem _ hx)) (by omega) (by omega) (by omega) (fun j h1 h2 => by
          refine (e3 j).trans ?_
          rw [if_neg (by omega)]
          exact h0 j (by omega) h2)
        refine ⟨g, y, ?_, fun x hx => (f2 x hx).trans (e2 x hx), fun j => ?_⟩
        · rw [cIf_f (fun q => hk (nI_inj (by have := kd16 (o_fw σ) b; omega) (by omega) (q.trans nI3l))), c1, bnd_s, P_lengthAt hR hRb hT, bnd_s, e1', bnp_s, P_lengthAt hR1 hRb (hR1.T hRb hl1), bnd_s, nmd_v, nI_add, nmd_v, pk_m1, nmd_v]
          exact f1
        · rw [f3 j, Us]
          show (if d + mlen μ p ≤ j ∧ j < n then Us μ st (j - (d + mlen μ p)) else un g1 U j) = if d ≤ j ∧ j < n then (if j - d < mlen μ p then uo μ p (j - d) else Us μ st (j - d - mlen μ p)) else un (o_fw σ) U j
          rw [e3 j]
          by_cases c1 : d + mlen μ p ≤ j ∧ j < n
          · rw [if_pos c1, if_pos (by omega), if_neg (by omega)]
            congr 1
            omega
          · rw [if_neg c1]
            by_cases c2 : d ≤ j ∧ j < n
            · rw [if_pos c2, if_pos (by omega), if_pos (by omega), d6 _ (by omega)]
              congr 1
              omega
            · rw [if_neg c2, if_neg (by omega)]
theorem P_copyAll {F : Nat} {σ : oS} {μ : mS} {U M W b p : Nat} {R : Nat → Nat → Prop} (hF : 8100 < F) (hR : Rd σ μ R U M) (hRb : R b p) (h1 : 1 ≤ mlen μ p) (hn : mlen μ p ≤ 4000) (hW : mlen μ p ≤ 2 * W) (hlw : U + 4 + W ≤ o_lw σ) (h0 : ∀ j, j < mlen μ p → un (o_fw σ) U j = 0) :
    ∃ g y, fX0_copyAllUnits F σ (nI b) (nI U) = some (o_s_fw (o_s_fp σ y) g) ∧ (∀ x, x < U + 4 ∨ U + 4 + W ≤ x → g x = o_fw σ x) ∧ ∀ j, un g U j = if j < mlen μ p then uo μ p j else un (o_fw σ) U j := by
  obtain ⟨g, y, g1, g2, g3⟩ := P_cau (F := F) (v1 := nI b) (by omega) hn hW 8000 F 0 [(b, p)] (o_s_fp σ (upd (o_fp σ) 0 (nI b))) (by omega) (by omega) (hR.keep (fun _ _ => rfl) rfl (Nat.le_refl _) hR.2.2.1) hlw ⟨(show upd (o_fp σ) 0 (nI b) 0 = nI b from pk_us), trivial⟩ (fun x hx => by rw [List.mem_singleton.mp hx]; exact ⟨hRb, h1⟩) (by rw [Ln, Ln]; show 0 + (mlen μ p + 0) = _; omega) (by rw [Ln, Ln]; show 2 * (mlen μ p + 0) ≤ 8000 + 1; omega) (by show 1 ≤ 3977; omega) (fun j _ hj => h0 j hj)
  refine ⟨g, y, ?_, g2, fun j => ?_⟩
  · unfold fX0_copyAllUnits
    rw [ck_t (show vp_in (0 : Int32) 4000 from vp_in_nI (n := 0) (by omega) (by omega)), nmd_v]
    exact g1
  · rw [g3 j]
    by_cases hc : j < mlen μ p
    · rw [if_pos ⟨Nat.zero_le _, hc⟩, if_pos hc, Us]
      show (if j - 0 < mlen μ p then uo μ p (j - 0) else _) = _
      rw [Nat.sub_zero, if_pos hc]
    · rw [if_neg (fun q => hc q.2), if_neg hc]
      rfl
