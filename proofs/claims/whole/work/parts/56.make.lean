/-! a new object of the class -/
theorem or_nI {a b : Nat} (ha : a < 2 ^ 32) (hb : b < 2 ^ 32) : nI a ||| nI b = nI (a ||| b) := by
  apply Int32.toBitVec_inj.mp
  apply BitVec.eq_of_toNat_eq
  rw [pk_tn (Nat.or_lt_two_pow ha hb), Int32.toBitVec_or, BitVec.toNat_or, pk_tn ha, pk_tn hb]
theorem or_add {a b i : Nat} (h : a < 2 ^ i) : a ||| b * 2 ^ i = a + b * 2 ^ i := by
  rw [Nat.or_comm, Nat.mul_comm, ← Nat.two_pow_add_eq_or_of_lt h b]
  omega
def hdr (k l v s : Nat) : Nat := k + 16 * l + 256 * v + 4096 * s
theorem P_shapeOf {F k l v s : Nat} (hk : k < 16) (hl : l < 16) (hv : v < 16) (hs : s < 4096) : fX0_shapeOf F (nI k) (nI l) (nI v) (nI s) = some (nI (hdr k l v s)) := by
  unfold fX0_shapeOf hdr
  rw [pk_shlN (n := l) _ 4 (by decide) (by omega), pk_shlN (n := v) _ 8 (by decide) (by omega), pk_shlN (n := s) _ 12 (by decide) (by omega)]
  rw [or_nI (by omega) (by omega), or_add (by omega), or_nI (by omega) (by omega), or_add (by omega), or_nI (by omega) (by omega), or_add (by omega)]
  congr 2
  omega
theorem hdr_rd {f : Nat → Int32} {a k l v s : Nat} (hk : k < 16) (hl : l < 16) (hv : v < 16) (hs : s < 4096) (h : f a = nI (hdr k l v s)) : kd f a = k ∧ lk f a = l ∧ vl f a = v ∧ sz f a = s ∧ okW f a := by
  have e := wN_of h (by unfold hdr; omega)
  refine ⟨?_, ?_, ?_, ?_, okW_of h (by unfold hdr; omega)⟩
  · unfold kd; rw [e]; unfold hdr; omega
  · unfold lk; rw [e]; unfold hdr; omega
  · unfold vl; rw [e]; unfold hdr; omega
  · unfold sz; rw [e]; unfold hdr; omega
/-- all but the row of words is as it was -/
def EqO (σ' σ : oS) : Prop := o_lim σ' = o_lim σ ∧ o_fr σ' = o_fr σ ∧ o_ln σ' = o_ln σ ∧ o_fn σ' = o_fn σ ∧ o_nc σ' = o_nc σ ∧ o_wt σ' = o_wt σ ∧ o_st σ' = o_st σ
theorem EqO.rf (σ : oS) : EqO σ σ := ⟨rfl, rfl, rfl, rfl, rfl, rfl, rfl⟩
theorem EqO.tr {σ σ1 σ2 : oS} (h : EqO σ2 σ1) (g : EqO σ1 σ) : EqO σ2 σ := by
  obtain ⟨h1, h2, h3, h4, h5, h6, h7⟩ := h
  obtain ⟨g1, g2, g3, g4, g5, g6, g7⟩ := g
  exact ⟨h1.trans g1, h2.trans g2, h3.trans g3, h4.trans g4, h5.trans g5, h6.trans g6, h7.trans g7⟩
/-- what was spent on rows -/
def pot (σ : oS) : Nat := 2 * o_lw σ + (if o_lim σ = nI (o_lw σ) then o_lw σ else 0) + 2 * o_ln σ
theorem P_widen_loop {F : Nat} {K : Int32 → Int32 → oS → Option ((Int32 ⊕ Unit) × oS × Nat × Nat)} {σ : oS} {L need : Nat} (hL : o_lim σ = nI L) (hL2 : L ≤ 1048576) (hn : need ≤ L) (k : Nat) : ∀ (n x t : Nat), t + k = 20 → 2 ^ t ≤ x → x ≤ 2 * L → k < n →
    ∃ y w, LX0_widen_8 F K (nI need) n (nI x) (nI t) σ = K (nI y) w σ ∧ (y = x ∨ (2 * x ≤ y ∧ x < L)) ∧ (2 * need ≤ y ∨ L ≤ y) ∧ y ≤ 2 * L := by
  have e20 : (20 : Int32) = nI 20 := rfl
  induction k with
  | zero =>
    intro n x t h0 h1 h2 h4
    obtain ⟨n, rfl⟩ : ∃ m, n = m + 1 := ⟨n - 1, by omega⟩
    have et : t = 20 := by omega
    subst et
    have hx : 1048576 ≤ x := h1
    refine ⟨x, nI 20, ?_, Or.inl rfl, Or.inr (by omega), h2⟩
    rw [LX0_widen_8, e20, cIf_t (nI_le (Nat.le_refl _) (by omega))]
  | succ k ih =>
    intro n x t h0 h1 h2 h4
    obtain ⟨n, rfl⟩ : ∃ m, n = m + 1 := ⟨n - 1, by omega⟩
    have hp : 1 ≤ 2 ^ t := Nat.one_le_two_pow
    rw [LX0_widen_8, e20, cIf_f (nI_ge (by omega) (by omega)), nI_2m, hL]
    by_cases h : 2 * need ≤ x
    · exact ⟨x, nI t, by rw [cIf_t (nI_le h (by omega))], Or.inl rfl, Or.inl h, h2⟩
    · by_cases h' : L ≤ x
      · exact ⟨x, nI t, by rw [cIf_f (nI_ge (by omega) (by omega)), cIf_t (nI_le h' (by omega))], Or.inl rfl, Or.inr h', h2⟩
      · obtain ⟨y, w, y1, y2, y3, y4⟩ := ih n (x + x) (t + 1) (by omega) (by rw [Nat.pow_succ]; omega) (by omega) (by omega)
        refine ⟨y, w, ?_, ?_, y3, y4⟩
        · rw [cIf_f (nI_ge (by omega) (by omega)), cIf_f (nI_ge (by omega) (by omega)), nmd_v, nI_add, nmd_v, nI_1]
          exact y1
        · rcases y2 with e | e
          · exact Or.inr (by omega)
          · exact Or.inr (by omega)
theorem P_widen {F : Nat} {σ : oS} {L need : Nat} (hF : 1048600 < F) (hL : o_lim σ = nI L) (hL2 : L ≤ 1048576) (hn : need ≤ L) (h1 : 1 ≤ o_lw σ) (h2 : o_lw σ ≤ L) :
    ∃ σ' C N, fX0_widen F σ (nI need) = some (.inr (), σ', C, N) ∧ EqO σ' σ ∧ o_us σ' = o_us σ ∧ o_md σ' = o_md σ ∧ o_lw σ ≤ o_lw σ' ∧ o_lw σ' ≤ L ∧ need ≤ o_lw σ' ∧ (∀ x, x < o_lw σ → o_fw σ' x = o_fw σ x) ∧ C ≤ 1 ∧ N + pot σ ≤ pot σ' := by
  obtain ⟨y, w, y1, y2, y3, y4⟩ := P_widen_loop (F := F) (K := (fun w5 _ σ6 => cIf (w5 ≤ (nI (o_lw σ6))) (some (.inr (), σ6, 0, 0)) (nmd (cIf ((o_lim σ6) < w5) (o_lim σ6) w5) (fun x8 => addC 1 x8.toNatClampNeg (ck (¬ x8 < 0 ∧ o_lw σ6 < x8.toNatClampNeg ∧ x8.toNatClampNeg ≤ 1048576) (nmd (o_s_fw (o_s_lw σ6 x8.toNatClampNeg) (grown (o_fw σ6) (o_lw σ6))) (fun σ10 => some (.inr (), σ10, 0, 0)))))))) hL hL2 hn 20 F (o_lw σ) 0 rfl h1 (by omega) (by omega)
  unfold fX0_widen
  rw [nI_0] at y1
  rw [nmd_v, y1]
  rcases y2 with e | ⟨e, e'⟩
  · subst e
    rw [cIf_t (nI_le (Nat.le_refl _) (by omega))]
    exact ⟨σ, 0, 0, rfl, EqO.rf σ, rfl, rfl, Nat.le_refl _, h2, by omega, fun _ _ => rfl, by omega, by omega⟩
  · rw [cIf_f (nI_ge (by omega) (by omega)), hL]
    have key : ∀ z, z ≤ L → o_lw σ < z → need ≤ z → (z = L ∨ 2 * o_lw σ ≤ z) → ∃ σ' C N, addC 1 (nI z).toNatClampNeg (ck (¬ nI z < 0 ∧ o_lw σ < (nI z).toNatClampNeg ∧ (nI z).toNatClampNeg ≤ 1048576) (nmd (o_s_fw (o_s_lw σ (nI z).toNatClampNeg) (grown (o_fw σ) (o_lw σ))) (fun σ10 => some ((.inr () : Int32 ⊕ Unit), σ10, 0, 0)))) = some (.inr (), σ', C, N) ∧ EqO σ' σ ∧ o_us σ' = o_us σ ∧ o_md σ' = o_md σ ∧ o_lw σ ≤ o_lw σ' ∧ o_lw σ' ≤ L ∧ need ≤ o_lw σ' ∧ (∀ x, x < o_lw σ → o_fw σ' x = o_fw σ x) ∧ C ≤ 1 ∧ N + pot σ ≤ pot σ' := by
      intro z z1 z2 z3 z4
      rw [nI_clamp (by omega), ck_t ⟨nI_pos (by omega), z2, by omega⟩, nmd_v]
      refine ⟨o_s_fw (o_s_lw σ z) (grown (o_fw σ) (o_lw σ)), 1 + 0, z + 0, rfl, EqO.rf σ, rfl, rfl, Nat.le_of_lt z2, z1, z3, fun x hx => ?_, by omega, ?_⟩
      · show grown (o_fw σ) (o_lw σ) x = _
        unfold grown
        rw [if_pos hx]
      · show z + 0 + pot σ ≤ 2 * z + (if o_lim σ = nI z then z else 0) + 2 * o_ln σ
        unfold pot
        rw [hL, if_neg (fun q => by have := nI_inj (by omega) (by omega) q; omega)]
        rcases z4 with e | e
        · subst e
          rw [if_pos rfl]
          omega
        · have : 0 ≤ (if nI L = nI z then z else 0) := Nat.zero_le _
          omega
    rw [nmd_v]
    by_cases hc : L < y
    · rw [cIf_t (nI_lt hc (by omega))]
      exact key L (Nat.le_refl _) (by omega) hn (Or.inl rfl)
    · rw [cIf_f (nI_nlt (by omega) (by omega))]
      exact key y (by omega) (by omega) (by omega) (Or.inr e)
/-- make's end -/
noncomputable def mkT (F : Nat) (σ32 : oS) (p1 p2 p3 x1 : Int32) : xT Int32 := nmd (o_us σ32) (fun x37 => nmd (o_s_us σ32 ((o_us σ32) + x1)) (fun σ38 => nmd (o_s_md σ38 ((o_md σ38) + 1)) (fun σ39 => ck (¬ x37 < 0 ∧ x37 ≤ (o_us σ39) ∧ (o_us σ39) ≤ nI (o_lw σ39) ∧ o_lw σ39 < 2147483648) (nmd (o_s_fw σ39 (fillF (o_fw σ39) x37.toNatClampNeg (o_us σ39).toNatClampNeg 0)) (fun σ41 => ck (¬ (x37 + 3) < 0 ∧ (x37 + 3) ≤ ((x37 + 3) + p2) ∧ ((x37 + 3) + p2) ≤ nI (o_lw σ41) ∧ o_lw σ41 < 2147483648) (nmd (o_s_fw σ41 (fillF (o_fw σ41) (x37 + 3).toNatClampNeg ((x37 + 3) + p2).toNatClampNeg (-1))) (fun σ43 => bnp (fX0_shapeOf F p1 p2 p3 x1) (fun r44 => ck (vp_in (x37 + 0) (o_lw σ43)) (nmd (o_s_fw σ43 (upd (o_fw σ43) (x37 + 0).toNatClampNeg r44)) (fun σ46 => ck (vp_in (x37 + 1) (o_lw σ46)) (nmd (o_s_fw σ46 (upd (o_fw σ46) (x37 + 1).toNatClampNeg (-1))) (fun σ48 => some (.inr x37, σ48, 0, 0)))))))))))))
theorem cIf_True {α : Type} {a b : α} : cIf True a b = a := cIf_t trivial
theorem cIf_False {α : Type} {a b : α} : cIf False a b = b := cIf_f not_false
theorem make_eq (F : Nat) (σ : oS) (p1 p2 p3 p4 : Int32) : fX0_make F σ p1 p2 p3 p4 =
    cIf (((3 + p2) + (2 * p3)) + p4 ≤ ((nI (o_lw σ)) - (o_us σ)))
      (bnd (fX0_isStressed F σ) (fun r s => cIf (r = 0) (cIf (((3 + p2) + (2 * p3)) + p4 ≤ ((o_lim s) - (o_us s))) (mkT F s p1 p2 p3 (((3 + p2) + (2 * p3)) + p4)) (some (.inl 2, s, 1, 6))) (bnp (fX0_slideTogether F s) (fun s => cIf (((3 + p2) + (2 * p3)) + p4 ≤ ((o_lim s) - (o_us s))) (mkT F s p1 p2 p3 (((3 + p2) + (2 * p3)) + p4)) (some (.inl 2, s, 1, 6))))))
      (bnp (fX0_slideTogether F σ) (fun s => cIf (((3 + p2) + (2 * p3)) + p4 ≤ ((o_lim s) - (o_us s))) (bndX (fX0_widen F s ((o_us s) + (((3 + p2) + (2 * p3)) + p4))) (fun _ s2 => mkT F s2 p1 p2 p3 (((3 + p2) + (2 * p3)) + p4))) (some (.inl 2, s, 1, 6)))) := by
  have h1 : ((1 : Int32) = 0) = False := by simp
  unfold fX0_make
  simp only [cIf_True, cIf_False, h1]
  rfl
def NewO (f g : Nat → Int32) (U k l v s : Nat) : Prop := (∀ x, x < U → g x = f x) ∧ g U = nI (hdr k l v s) ∧ g (U + 1) = -1 ∧ (∀ i, i < l → g (U + 3 + i) = -1) ∧ ∀ i, 3 + l ≤ i → i < s → g (U + i) = 0
theorem P_mkT {F : Nat} {σ : oS} {U k l v s : Nat} (hu : o_us σ = nI U) (hl : U + s ≤ o_lw σ) (hw : o_lw σ ≤ 1048576) (hk : k < 16) (hl1 : l < 16) (hv : v < 16) (hs : s < 4096) (h3 : 3 + l ≤ s) :
    ∃ σ', mkT F σ (nI k) (nI l) (nI v) (nI s) = some (.inr (nI U), σ', 0, 0) ∧ EqO σ' σ ∧ o_us σ' = nI (U + s) ∧ o_md σ' = o_md σ + 1 ∧ o_lw σ' = o_lw σ ∧ NewO (o_fw σ) (o_fw σ') U k l v s := by
  refine ⟨o_s_fw (o_s_md (o_s_us σ (nI (U + s))) (o_md σ + 1)) (upd (upd (fillF (fillF (o_fw σ) U (U + s) 0) (U + 3) (U + 3 + l) (-1)) U (nI (hdr k l v s))) (U + 1) (-1)), ?_, EqO.rf σ, rfl, rfl, rfl, ?_⟩
  · unfold mkT
    rw [nmd_v, nmd_v, nmd_v, hu, nI_add]
    show ck (¬ nI U < 0 ∧ nI U ≤ nI (U + s) ∧ nI (U + s) ≤ nI (o_lw σ) ∧ o_lw σ < 2147483648) (nmd (o_s_fw (o_s_md (o_s_us σ (nI (U + s))) (o_md σ + 1)) (fillF (o_fw σ) (nI U).toNatClampNeg (nI (U + s)).toNatClampNeg 0)) _) = _
    rw [ck_t ⟨nI_pos (by omega), nI_le (by omega) (by omega), nI_le (by omega) (by omega), by omega⟩, nmd_v, nI_p3, nI_add, nI_p0, nI_p1, nI_clamp (by omega), nI_clamp (by omega)]
    show ck (¬ nI (U + 3) < 0 ∧ nI (U + 3) ≤ nI (U + 3 + l) ∧ nI (U + 3 + l) ≤ nI (o_lw σ) ∧ o_lw σ < 2147483648) _ = _
    rw [ck_t ⟨nI_pos (by omega), nI_le (by omega) (by omega), nI_le (by omega) (by omega), by omega⟩, nmd_v, P_shapeOf hk hl1 hv hs, bnp_s]
    show ck (vp_in (nI U) (o_lw σ)) _ = _
    rw [ck_t (vp_in_nI (by omega) (by omega)), nmd_v]
    show ck (vp_in (nI (U + 1)) (o_lw σ)) _ = _
    rw [ck_t (vp_in_nI (by omega) (by omega)), nmd_v, nI_clamp (by omega), nI_clamp (by omega), nI_clamp (by omega)]
    rfl
  · show NewO (o_fw σ) (upd (upd (fillF (fillF (o_fw σ) U (U + s) 0) (U + 3) (U + 3 + l) (-1)) U (nI (hdr k l v s))) (U + 1) (-1)) U k l v s
    refine ⟨fun x hx => ?_, ?_, pk_us, fun i hi => ?_, fun i h1 h2 => ?_⟩
    · rw [pk_un (by omega), pk_un (by omega)]
      unfold fillF
      rw [if_neg (by omega), if_neg (by omega)]
    · rw [pk_un (by omega), pk_us]
    · rw [pk_un (by omega), pk_un (by omega)]
      unfold fillF
      rw [if_pos (by omega)]
    · rw [pk_un (by omega), pk_un (by omega)]
      unfold fillF
      rw [if_neg (by omega), if_pos (by omega)]
