/-! names are kept, roots and leads are told where their objects go -/
def keep (g : Nat → Int32) (r : List Nat) : List Int32 := r.filterMap (fun a => if g (a + 1) = -1 then none else some (g (a + 1)))
theorem keep_c {g : Nat → Int32} {a : Nat} {r : List Nat} : keep g (a :: r) = if g (a + 1) = -1 then keep g r else g (a + 1) :: keep g r := by
  unfold keep
  by_cases h : g (a + 1) = -1
  · rw [if_pos h, List.filterMap_cons_none (by rw [if_pos h])]
  · rw [if_neg h, List.filterMap_cons_some (by rw [if_neg h])]
theorem P_keep {F : Nat} {K : Int32 → Int32 → oS → Option oS} {g : Nat → Int32} : ∀ (r : List Nat) (n kp i : Nat) (σ : oS), o_fw σ = g → kp ≤ i → o_nc σ = nI (i + r.length) → i + r.length ≤ o_ln σ → o_ln σ ≤ 1048576 → (∀ (j a : Nat), r[j]? = some a → o_fn σ (i + j) = nI a) → (∀ a ∈ r, a + 1 < o_lw σ) → o_lw σ ≤ 1048576 → r.length < n →
    ∃ fn', LX0_keepNames_4 F K n (nI kp) (nI i) σ = K (nI (kp + (keep g r).length)) (nI (i + r.length)) (o_s_fn σ fn') ∧ (∀ j, j < kp → fn' j = o_fn σ j) ∧ ∀ (j : Nat) (v : Int32), (keep g r)[j]? = some v → fn' (kp + j) = v
  | [], n, kp, i, σ, hg, hk, hc, hln, hln2, hv, hb, hl, hn => by
    obtain ⟨n, rfl⟩ : ∃ m, n = m + 1 := ⟨n - 1, by simp at hn; omega⟩
    refine ⟨o_fn σ, ?_, fun _ _ => rfl, fun j v h => by simp [keep] at h⟩
    rw [LX0_keepNames_4, hc, cIf_t (nI_le (by simp) (by simp at hln ⊢; omega))]
    rfl
  | a :: r, n, kp, i, σ, hg, hk, hc, hln, hln2, hv, hb, hl, hn => by
    obtain ⟨n, rfl⟩ : ∃ m, n = m + 1 := ⟨n - 1, by simp at hn; omega⟩
    simp only [List.length_cons] at hc hln hn ⊢
    have h0 := hv 0 a rfl
    rw [Nat.add_zero] at h0
    have ha := hb a List.mem_cons_self
    have hv1 : ∀ (j b : Nat), r[j]? = some b → o_fn σ (i + 1 + j) = nI b := fun j b h => by
      have := hv (j + 1) b (by simpa using h)
      rw [show i + 1 + j = i + (j + 1) by omega]
      exact this
    rw [LX0_keepNames_4, hc, cIf_f (nI_ge (by omega) (by omega)), ck_t (vp_in_nI (by omega) (by omega)), nI_clamp (by omega), h0]
    show ∃ fn', (ck (vp_in (nI a + 1) (o_lw σ)) (nmd (o_fw σ (nI a + 1).toNatClampNeg) _)) = _ ∧ _
    rw [nI_1, ck_t (vp_in_nI ha (by omega)), nI_clamp (by omega), keep_c, hg]
    show ∃ fn', cIf (g (a + 1) = -1) _ _ = _ ∧ _
    by_cases hm : g (a + 1) = -1
    · rw [if_pos hm]
      obtain ⟨fn', h1, h2, h3⟩ := P_keep r n kp (i + 1) σ hg (by omega) (by rw [hc]; congr 1; omega) (by omega) hln2 hv1 (fun b hb2 => hb b (List.mem_cons_of_mem _ hb2)) hl (by omega)
      refine ⟨fn', ?_, h2, h3⟩
      rw [cIf_t hm]
      show LX0_keepNames_4 F K n (nI kp) (nI i + 1) σ = _
      rw [nI_1, h1, show i + 1 + r.length = i + (r.length + 1) by omega]
    · rw [if_neg hm]
      have hne : ∀ x, x ≠ kp → upd (o_fn σ) kp (g (a + 1)) x = o_fn σ x := fun x hx => by unfold upd; rw [if_neg hx]
      obtain ⟨fn', h1, h2, h3⟩ := P_keep r n (kp + 1) (i + 1) (o_s_fn σ (upd (o_fn σ) kp (g (a + 1)))) hg (by omega) (by show o_nc σ = _; rw [hc]; congr 1; omega) (by show _ ≤ o_ln σ; omega) hln2 (fun j b h => by
        show upd (o_fn σ) kp (g (a + 1)) (i + 1 + j) = _
        rw [hne _ (by omega)]
        exact hv1 j b h) (fun b hb2 => hb b (List.mem_cons_of_mem _ hb2)) hl (by omega)
      refine ⟨fn', ?_, fun j hj => ?_, fun j v h => ?_⟩
      · rw [cIf_f hm, ck_t (vp_in_nI (by omega) (by omega)), nI_clamp (by omega)]
        show LX0_keepNames_4 F K n (nI kp + 1) (nI i + 1) (o_s_fn σ (upd (o_fn σ) kp (g (a + 1)))) = _
        rw [nI_1, nI_1, h1, show i + 1 + r.length = i + (r.length + 1) by omega, show kp + 1 + (keep g r).length = kp + (g (a + 1) :: keep g r).length by simp only [List.length_cons]; omega]
        rfl
      · rw [h2 j (by omega)]
        exact hne j (by omega)
      · cases j with
        | zero =>
          have e1 : g (a + 1) = v := by simpa using h
          rw [Nat.add_zero, h2 kp (by omega), ← e1]
          show upd (o_fn σ) kp (g (a + 1)) kp = _
          unfold upd
          rw [if_pos rfl]
        | succ j =>
          have := h3 j v (by simpa using h)
          rw [show kp + (j + 1) = kp + 1 + j by omega]
          exact this
/-- where a lead goes -/
def mp (g : Nat → Int32) (x : Int32) : Int32 := if x = -1 then -1 else g (x.toNatClampNeg + 1)
theorem mp_0 (g : Nat → Int32) : mp g (-1) = -1 := by unfold mp; rw [if_pos rfl]
theorem mp_n {g : Nat → Int32} {b : Nat} (h : b < 2 ^ 31) : mp g (nI b) = g (b + 1) := by unfold mp; rw [if_neg (nI_nm1 h), nI_clamp h]
theorem P_touch1 {F : Nat} {σ : oS} {x : Int32} (hb : o_lw σ ≤ 1048576) (hx : x = -1 ∨ ∃ t, x = nI t ∧ t + 1 < o_lw σ) : fX0_touch F σ x 1 = some (mp (o_fw σ) x, σ) := by
  rcases hx with e | ⟨t, e, ht⟩
  · subst e; rw [mp_0]; exact P_touch0
  · subst e; rw [mp_n (by omega)]; exact P_touch_move ht hb
theorem MV_roots {F : Nat} {K : Int32 → oS → Option oS} (k : Nat) : ∀ (n r : Nat) (σ : oS), r + k = 24 → k < n → o_lw σ ≤ 1048576 → (∀ q, r ≤ q → q < 24 → o_fr σ q = -1 ∨ ∃ t, o_fr σ q = nI t ∧ t + 1 < o_lw σ) →
    ∃ fr', LX0_touchRoots_2 F K 1 n (nI r) σ = K (nI 24) (o_s_fr σ fr') ∧ (∀ q, r ≤ q → q < 24 → fr' q = mp (o_fw σ) (o_fr σ q)) ∧ ∀ q, q < r → fr' q = o_fr σ q := by
  induction k with
  | zero =>
    intro n r σ hr hn hl hv
    obtain ⟨n, rfl⟩ : ∃ m, n = m + 1 := ⟨n - 1, by omega⟩
    have e : r = 24 := by omega
    subst e
    refine ⟨o_fr σ, ?_, fun q h1 h2 => absurd h2 (by omega), fun _ _ => rfl⟩
    rw [LX0_touchRoots_2, cIf_t (by rw [lit24]; exact nI_le (Nat.le_refl _) (by omega))]
    rfl
  | succ k ih =>
    intro n r σ hr hn hl hv
    obtain ⟨n, rfl⟩ : ∃ m, n = m + 1 := ⟨n - 1, by omega⟩
    have hne : ∀ x, x ≠ r → upd (o_fr σ) r (mp (o_fw σ) (o_fr σ r)) x = o_fr σ x := fun x hx => by unfold upd; rw [if_neg hx]
    obtain ⟨fr', h1, h2, h3⟩ := ih n (r + 1) (o_s_fr σ (upd (o_fr σ) r (mp (o_fw σ) (o_fr σ r)))) (by omega) (by omega) hl (fun q hq1 hq => by
      show upd (o_fr σ) r (mp (o_fw σ) (o_fr σ r)) q = -1 ∨ ∃ t, upd (o_fr σ) r (mp (o_fw σ) (o_fr σ r)) q = nI t ∧ t + 1 < o_lw σ
      rw [hne q (by omega)]
      exact hv q (by omega) hq)
    refine ⟨fr', ?_, fun q hq1 hq => ?_, fun q hq => ?_⟩
    · rw [LX0_touchRoots_2, cIf_f (by rw [lit24]; exact nI_ge (by omega) (by omega)), ck_t (vp_in_nI (by omega) (by omega)), nI_clamp (by omega)]
      show bnd (fX0_touch F σ (o_fr σ r) 1) _ = _
      rw [P_touch1 hl (hv r (by omega) (by omega))]
      show ck (vp_in (nI r) 24) _ = _
      rw [ck_t (vp_in_nI (by omega) (by omega))]
      show LX0_touchRoots_2 F K 1 n (nI r + 1) (o_s_fr σ (upd (o_fr σ) r (mp (o_fw σ) (o_fr σ r)))) = _
      rw [nI_1, h1]
      rfl
    · by_cases e : q = r
      · subst e
        rw [h3 q (by omega)]
        show upd (o_fr σ) q (mp (o_fw σ) (o_fr σ q)) q = _
        unfold upd
        rw [if_pos rfl]
      · rw [h2 q (by omega) hq]
        show mp (o_fw σ) (upd (o_fr σ) r (mp (o_fw σ) (o_fr σ r)) q) = _
        rw [hne q e]
    · rw [h3 q (by omega)]
      exact hne q (by omega)
theorem P_touchRoots1 {F : Nat} {σ : oS} (hF : 24 < F) (hl : o_lw σ ≤ 1048576) (hv : ∀ q, q < 24 → o_fr σ q = -1 ∨ ∃ t, o_fr σ q = nI t ∧ t + 1 < o_lw σ) : ∃ fr', fX0_touchRoots F σ 1 = some (o_s_fr σ fr') ∧ ∀ q, q < 24 → fr' q = mp (o_fw σ) (o_fr σ q) := by
  obtain ⟨fr', h1, h2, -⟩ := MV_roots (F := F) (K := fun _ σ => some σ) 24 F 0 σ (by omega) hF hl (fun q _ h => hv q h)
  exact ⟨fr', h1, fun q hq => h2 q (by omega) hq⟩
/-- the links of one object -/
theorem MV_links {F : Nat} {K : Int32 → oS → Option oS} {v1 : Int32} {a l : Nat} (k : Nat) : ∀ (n i : Nat) (σ : oS), i + k = l → k < n → o_lw σ ≤ 1048576 → a + 3 + l ≤ o_lw σ → (∀ j, i ≤ j → j < l → o_fw σ (a + 3 + j) = -1 ∨ ∃ t, o_fw σ (a + 3 + j) = nI t ∧ t + 1 < o_lw σ ∧ (t + 1 < a + 3 ∨ a + 3 + l ≤ t + 1)) →
    ∃ f', LX0_touchLeads_15 F K v1 1 (nI (a + 3 + l)) n (nI (a + 3 + i)) σ = K (nI (a + 3 + l)) (o_s_fw σ f') ∧ (∀ j, i ≤ j → j < l → f' (a + 3 + j) = mp (o_fw σ) (o_fw σ (a + 3 + j))) ∧ ∀ x, x < a + 3 + i ∨ a + 3 + l ≤ x → f' x = o_fw σ x := by
  induction k with
  | zero =>
    intro n i σ hr hn hl hal hv
    obtain ⟨n, rfl⟩ : ∃ m, n = m + 1 := ⟨n - 1, by omega⟩
    have e : i = l := by omega
    subst e
    refine ⟨o_fw σ, ?_, fun q h1 h2 => absurd h2 (by omega), fun _ _ => rfl⟩
    rw [LX0_touchLeads_15, cIf_t (nI_le (Nat.le_refl _) (by omega))]
    rfl
  | succ k ih =>
    intro n i σ hr hn hl hal hv
    obtain ⟨n, rfl⟩ : ∃ m, n = m + 1 := ⟨n - 1, by omega⟩
    have hne : ∀ x, x ≠ a + 3 + i → upd (o_fw σ) (a + 3 + i) (mp (o_fw σ) (o_fw σ (a + 3 + i))) x = o_fw σ x := fun x hx => by unfold upd; rw [if_neg hx]
    obtain ⟨f', h1, h2, h3⟩ := ih n (i + 1) (o_s_fw σ (upd (o_fw σ) (a + 3 + i) (mp (o_fw σ) (o_fw σ (a + 3 + i))))) (by omega) (by omega) hl hal (fun j hj1 hj => by
      show upd (o_fw σ) (a + 3 + i) (mp (o_fw σ) (o_fw σ (a + 3 + i))) (a + 3 + j) = -1 ∨ ∃ t, upd (o_fw σ) (a + 3 + i) (mp (o_fw σ) (o_fw σ (a + 3 + i))) (a + 3 + j) = nI t ∧ _
      rw [hne (a + 3 + j) (by omega)]
      exact hv j (by omega) hj)
    have hx := hv i (Nat.le_refl _) (by omega)
    refine ⟨f', ?_, fun j hj1 hj => ?_, fun x hx => ?_⟩
    · rw [LX0_touchLeads_15, cIf_f (nI_ge (by omega) (by omega)), ck_t (vp_in_nI (by omega) (by omega)), nI_clamp (by omega)]
      show bnd (fX0_touch F σ (o_fw σ (a + 3 + i)) 1) _ = _
      rw [P_touch1 hl (hx.imp id (fun ⟨t, h1, h2, _⟩ => ⟨t, h1, h2⟩))]
      show ck (vp_in (nI (a + 3 + i)) (o_lw σ)) _ = _
      rw [ck_t (vp_in_nI (by omega) (by omega))]
      show LX0_touchLeads_15 F K v1 1 (nI (a + 3 + l)) n (nI (a + 3 + i) + 1) (o_s_fw σ (upd (o_fw σ) (a + 3 + i) (mp (o_fw σ) (o_fw σ (a + 3 + i))))) = _
      rw [nI_1]
      exact h1
    · by_cases e : j = i
      · subst e
        rw [h3 _ (Or.inl (by omega))]
        show upd (o_fw σ) (a + 3 + j) (mp (o_fw σ) (o_fw σ (a + 3 + j))) (a + 3 + j) = _
        unfold upd
        rw [if_pos rfl]
      · rw [h2 j (by omega) hj]
        show mp (upd (o_fw σ) (a + 3 + i) (mp (o_fw σ) (o_fw σ (a + 3 + i)))) (upd (o_fw σ) (a + 3 + i) (mp (o_fw σ) (o_fw σ (a + 3 + i))) (a + 3 + j)) = _
        rw [hne (a + 3 + j) (by omega)]
        rcases hv j (by omega) hj with e1 | ⟨t, e1, ht, hd⟩
        · rw [e1, mp_0, mp_0]
        · rw [e1, mp_n (by omega), mp_n (by omega), hne (t + 1) (by omega)]
    · rw [h3 x (by omega)]
      exact hne x (by omega)
/-- the values of one object; b is where they begin -/
theorem MV_vals {F : Nat} {K : Int32 → oS → Option oS} {v1 v3 : Int32} {b v : Nat} (k : Nat) : ∀ (n i : Nat) (σ : oS), i + k = v → k < n → o_lw σ ≤ 1048576 → b + 2 * v ≤ o_lw σ → (∀ j, i ≤ j → j < v → isR (o_fw σ (b + 2 * j)) → o_fw σ (b + 2 * j + 1) = -1 ∨ ∃ t, o_fw σ (b + 2 * j + 1) = nI t ∧ t + 1 < o_lw σ ∧ (t + 1 < b ∨ b + 2 * v ≤ t + 1)) →
    ∃ f', LX0_touchLeads_60 F K v1 1 v3 (nI (b + 2 * v)) n (nI (b + 2 * i)) σ = K (nI (b + 2 * v)) (o_s_fw σ f') ∧ (∀ j, i ≤ j → j < v → f' (b + 2 * j) = o_fw σ (b + 2 * j) ∧ (isR (o_fw σ (b + 2 * j)) → f' (b + 2 * j + 1) = mp (o_fw σ) (o_fw σ (b + 2 * j + 1))) ∧ (¬ isR (o_fw σ (b + 2 * j)) → f' (b + 2 * j + 1) = o_fw σ (b + 2 * j + 1))) ∧ ∀ x, x < b + 2 * i ∨ b + 2 * v ≤ x → f' x = o_fw σ x := by
  induction k with
  | zero =>
    intro n i σ hr hn hl hal hv
    obtain ⟨n, rfl⟩ : ∃ m, n = m + 1 := ⟨n - 1, by omega⟩
    have e : i = v := by omega
    subst e
    refine ⟨o_fw σ, ?_, fun q h1 h2 => absurd h2 (by omega), fun _ _ => rfl⟩
    rw [LX0_touchLeads_60, cIf_t (nI_le (Nat.le_refl _) (by omega))]
    rfl
  | succ k ih =>
    intro n i σ hr hn hl hal hv
    obtain ⟨n, rfl⟩ : ∃ m, n = m + 1 := ⟨n - 1, by omega⟩
    rw [LX0_touchLeads_60, cIf_f (nI_ge (by omega) (by omega)), ck_t (vp_in_nI (by omega) (by omega)), nI_clamp (by omega)]
    by_cases hR : isR (o_fw σ (b + 2 * i))
    · have hne : ∀ x, x ≠ b + 2 * i + 1 → upd (o_fw σ) (b + 2 * i + 1) (mp (o_fw σ) (o_fw σ (b + 2 * i + 1))) x = o_fw σ x := fun x hx => by unfold upd; rw [if_neg hx]
      obtain ⟨f', h1, h2, h3⟩ := ih n (i + 1) (o_s_fw σ (upd (o_fw σ) (b + 2 * i + 1) (mp (o_fw σ) (o_fw σ (b + 2 * i + 1))))) (by omega) (by omega) hl hal (fun j hj1 hj => by
        show isR (upd (o_fw σ) (b + 2 * i + 1) (mp (o_fw σ) (o_fw σ (b + 2 * i + 1))) (b + 2 * j)) → upd (o_fw σ) (b + 2 * i + 1) (mp (o_fw σ) (o_fw σ (b + 2 * i + 1))) (b + 2 * j + 1) = -1 ∨ ∃ t, upd (o_fw σ) (b + 2 * i + 1) (mp (o_fw σ) (o_fw σ (b + 2 * i + 1))) (b + 2 * j + 1) = nI t ∧ _
        rw [hne (b + 2 * j) (by omega), hne (b + 2 * j + 1) (by omega)]
        exact hv j (by omega) hj)
      have hx := hv i (Nat.le_refl _) (by omega) hR
      refine ⟨f', ?_, fun j hj1 hj => ?_, fun x hx => ?_⟩
      · show bnp (fX0_isReference F (o_fw σ (b + 2 * i))) _ = _
        rw [P_isReference_t hR]
        show cIf ((1 : Int32) = 0) _ _ = _
        rw [cIf_f (by decide), nI_1, ck_t (vp_in_nI (by omega) (by omega)), nI_clamp (by omega)]
        show bnd (fX0_touch F σ (o_fw σ (b + 2 * i + 1)) 1) _ = _
        rw [P_touch1 hl (hx.imp id (fun ⟨t, h1, h2, _⟩ => ⟨t, h1, h2⟩))]
        show ck (vp_in (nI (b + 2 * i + 1)) (o_lw σ)) _ = _
        rw [ck_t (vp_in_nI (by omega) (by omega))]
        show LX0_touchLeads_60 F K v1 1 v3 (nI (b + 2 * v)) n (nI (b + 2 * i) + 2) (o_s_fw σ (upd (o_fw σ) (b + 2 * i + 1) (mp (o_fw σ) (o_fw σ (b + 2 * i + 1))))) = _
        rw [nI_p2]
        exact h1
      · by_cases e : j = i
        · subst e
          refine ⟨by rw [h3 _ (Or.inl (by omega))]; exact hne _ (by omega), fun _ => ?_, fun q => absurd hR q⟩
          rw [h3 _ (Or.inl (by omega))]
          show upd (o_fw σ) (b + 2 * j + 1) (mp (o_fw σ) (o_fw σ (b + 2 * j + 1))) (b + 2 * j + 1) = _
          unfold upd
          rw [if_pos rfl]
        · obtain ⟨p1, p2, p3⟩ := h2 j (by omega) hj
          have q1 : o_fw (o_s_fw σ (upd (o_fw σ) (b + 2 * i + 1) (mp (o_fw σ) (o_fw σ (b + 2 * i + 1))))) = upd (o_fw σ) (b + 2 * i + 1) (mp (o_fw σ) (o_fw σ (b + 2 * i + 1))) := rfl
          rw [q1, hne (b + 2 * j) (by omega)] at p1 p2 p3
          rw [hne (b + 2 * j + 1) (by omega)] at p2 p3
          refine ⟨p1, fun hj2 => ?_, p3⟩
          rw [p2 hj2]
          rcases hv j (by omega) hj hj2 with e1 | ⟨t, e1, ht, hd⟩
          · rw [e1, mp_0, mp_0]
          · rw [e1, mp_n (by omega), mp_n (by omega), hne (t + 1) (by omega)]
      · rw [h3 x (by omega)]
        exact hne x (by omega)
    · obtain ⟨f', h1, h2, h3⟩ := ih n (i + 1) σ (by omega) (by omega) hl hal (fun j hj1 hj => hv j (by omega) hj)
      refine ⟨f', ?_, fun j hj1 hj => ?_, fun x hx => h3 x (by omega)⟩
      · show bnp (fX0_isReference F (o_fw σ (b + 2 * i))) _ = _
        rw [P_isReference_f hR]
        show cIf ((0 : Int32) = 0) _ _ = _
        rw [cIf_t rfl, nI_p2]
        exact h1
      · by_cases e : j = i
        · subst e
          exact ⟨h3 _ (Or.inl (by omega)), fun q => absurd q hR, fun _ => h3 _ (Or.inl (by omega))⟩
        · exact h2 j (by omega) hj
