/-! the reference's search to its end -/
theorem nmd_v {α β : Type} (a : α) (k : α → β) : nmd a k = k a := rfl
theorem bnd_s {α σ β : Type} (a : α) (t : σ) (k : α → σ → Option β) : bnd (some (a, t)) k = k a t := rfl
theorem bnp_s {α β : Type} (a : α) (k : α → Option β) : bnp (some a) k = k a := rfl
/-- what an object of the reference leads to -/
def mch (μ : mS) (o p : Nat) : Prop :=
  (∃ j l, m_links μ o = nI l ∧ l ≤ 8 ∧ j < l ∧ m_link μ (8 * o + j) = nI p) ∨ (∃ j l, m_values μ o = nI l ∧ l ≤ 8 ∧ j < l ∧ m_refers μ (8 * o + j) = nI p) ∨
  (m_kind μ o = 3 ∧ (m_a μ o = nI p ∨ m_b μ o = nI p)) ∨ (m_kind μ o = 4 ∧ m_spread μ o = nI p)
def mok (μ : mS) (M : Nat) (P : Nat → Prop) (o : Nat) : Prop :=
  (∃ l, m_links μ o = nI l ∧ l ≤ 8 ∧ ∀ j, j < l → Cm M P (m_link μ (8 * o + j))) ∧ (∃ l, m_values μ o = nI l ∧ l ≤ 8 ∧ ∀ j, j < l → Cm M P (m_refers μ (8 * o + j))) ∧
  (m_kind μ o = 3 → Cm M P (m_a μ o) ∧ Cm M P (m_b μ o)) ∧ (m_kind μ o = 4 → Cm M P (m_spread μ o))
theorem P_look_all {F : Nat} {K : Int32 → mS → Option mS} {μ0 : mS} {M : Nat} {P : Nat → Prop} (hM : M ≤ 4000) (hF : 100 < F) (hok : ∀ o, 1 ≤ o → o < M → P o → mok μ0 M P o) (k : Nat) : ∀ (n i : Nat) (μ : mS) (wl : List Nat), i + k = M → k < n → LI μ0 M P μ wl → (∀ o ∈ wl.take i, ∀ p, 1 ≤ p → p < M → mch μ0 o p → p ∈ wl) →
    ∃ μ' s x, LX1_look_54 F K n (nI i) μ = K x μ' ∧ LI μ0 M P μ' (wl ++ s) ∧ ∀ o ∈ wl ++ s, ∀ p, 1 ≤ p → p < M → mch μ0 o p → p ∈ wl ++ s := by
  have hend : ∀ (n i : Nat) (μ : mS) (wl : List Nat), 0 < n → i ≤ M → wl.length ≤ i → LI μ0 M P μ wl → (∀ o ∈ wl.take i, ∀ p, 1 ≤ p → p < M → mch μ0 o p → p ∈ wl) →
      ∃ μ' s x, LX1_look_54 F K n (nI i) μ = K x μ' ∧ LI μ0 M P μ' (wl ++ s) ∧ ∀ o ∈ wl ++ s, ∀ p, 1 ≤ p → p < M → mch μ0 o p → p ∈ wl ++ s := by
    intro n i μ wl hn hi hl hI hm
    obtain ⟨n, rfl⟩ : ∃ m, n = m + 1 := ⟨n - 1, by omega⟩
    refine ⟨μ, [], nI i, ?_, by rw [List.append_nil]; exact hI, ?_⟩
    · rw [LX1_look_54, hI.2.1, cIf_t (nI_le (by omega) (by omega))]
    · rw [List.append_nil]
      rw [List.take_of_length_le hl] at hm
      exact hm
  induction k with
  | zero =>
    intro n i μ wl hi hn hI hm
    exact hend n i μ wl (by omega) (by omega) (by have := nd_len M wl hI.2.2.2.1 (fun y hy => (hI.2.2.2.2.1 y hy).2.1); omega) hI hm
  | succ k ih =>
    intro n i μ wl hi hn hI hm
    by_cases hl : wl.length ≤ i
    · exact hend n i μ wl (by omega) (by omega) hl hI hm
    · obtain ⟨n, rfl⟩ : ∃ m, n = m + 1 := ⟨n - 1, by omega⟩
      have hlM := nd_len M wl hI.2.2.2.1 (fun y hy => (hI.2.2.2.2.1 y hy).2.1)
      obtain ⟨o, ho⟩ : ∃ o, wl[i]? = some o := ⟨wl[i]'(by omega), List.getElem?_eq_getElem (by omega)⟩
      have hmem : o ∈ wl := List.mem_of_getElem? ho
      obtain ⟨o1, o2, o3⟩ := hI.2.2.2.2.1 o hmem
      obtain ⟨⟨l, l1, l2, l3⟩, ⟨v, v1, v2, v3⟩, k3, k4⟩ := hok o o1 o2 o3
      have e8 : (8 : Int32) * nI o = nI (8 * o + 0) := by rw [Nat.add_zero]; exact pk_mul 8 o
      -- the links
      obtain ⟨μ1, s1, a1, a2, a3⟩ := P_look_links (F := F) hM o2 l1 l2 l3 l F 0 μ wl (by omega) (by omega) hI (fun j hj => absurd hj (by omega))
      obtain ⟨μ2, s2, b1, b2, b3⟩ := P_look_vals (F := F) hM o2 v1 v2 v3 v F 0 μ1 (wl ++ s1) (by omega) (by omega) a2 (fun j hj => absurd hj (by omega))
      have hw : m_waiting μ i = nI o := hI.2.2.1 i o ho
      have hin : vp_in (nI o) 4096 := vp_in_nI (by omega) (by omega)
      have hcl : (nI o).toNatClampNeg = o := nI_clamp (by omega)
      have htk : ∀ (t : List Nat) (x : Nat), x ∈ (wl ++ t).take (i + 1) → x ∈ wl.take i ∨ x = o := by
        intro t x hx
        rw [List.take_append_of_le_length (by omega), List.take_add_one, ho] at hx
        rcases List.mem_append.mp hx with h | h
        · exact Or.inl h
        · exact Or.inr (by simpa using h)
      have fin : ∀ (μ3 : mS) (s3 : List Nat), LI μ0 M P μ3 (wl ++ s1 ++ s2 ++ s3) → (∀ p, 1 ≤ p → p < M → (m_kind μ0 o = 3 ∧ (m_a μ0 o = nI p ∨ m_b μ0 o = nI p)) ∨ (m_kind μ0 o = 4 ∧ m_spread μ0 o = nI p) → p ∈ wl ++ s1 ++ s2 ++ s3) →
          ∃ μ' s x, LX1_look_54 F K n (nI i + 1) μ3 = K x μ' ∧ LI μ0 M P μ' (wl ++ s) ∧ ∀ o ∈ wl ++ s, ∀ p, 1 ≤ p → p < M → mch μ0 o p → p ∈ wl ++ s := by
        intro μ3 s3 h3 hc3
        have hass : ∀ t, wl ++ s1 ++ s2 ++ s3 ++ t = wl ++ (s1 ++ s2 ++ s3 ++ t) := fun t => by simp only [List.append_assoc]
        obtain ⟨μ', s, x, c1, c2, c3⟩ := ih n (i + 1) μ3 (wl ++ s1 ++ s2 ++ s3) (by omega) (by omega) h3 (fun q hq p p1 p2 hc => by
          have e := hass []
          rw [List.append_nil, List.append_nil] at e
          rw [e] at hq
          rcases htk _ q hq with h | h
          · have := hm q h p p1 p2 hc
            simp only [List.mem_append]
            exact Or.inl (Or.inl (Or.inl this))
          · subst h
            rcases hc with ⟨j, l', q1, q2, q3, q4⟩ | ⟨j, l', q1, q2, q3, q4⟩ | hc
            · have : l = l' := nI_inj (by omega) (by omega) (l1.symm.trans q1)
              subst this
              have := a3 j q3 p p1 p2 q4
              exact List.mem_append_left _ (List.mem_append_left _ this)
            · have : v = l' := nI_inj (by omega) (by omega) (v1.symm.trans q1)
              subst this
              have := b3 j q3 p p1 p2 q4
              exact List.mem_append_left _ this
            · exact hc3 p p1 p2 hc)
        rw [hass s] at c2 c3
        exact ⟨μ', _, x, by rw [nI_1]; exact c1, c2, c3⟩
      rw [LX1_look_54, hI.2.1, cIf_f (nI_ge (by omega) (by omega)), ck_t (vp_in_nI (by omega) (by omega)), nI_clamp (n := i) (by omega)]
      simp only [nmd_v, hw, e8]
      rw [a1, b1]
      simp only [nmd_v, ck_t hin, hcl]
      rw [b2.1.kind, b2.1.a]
      by_cases hk3 : m_kind μ0 o = 3
      · rw [cIf_t hk3]
        obtain ⟨cA, cB⟩ := k3 hk3
        obtain ⟨μ3, s3, d1, d2, d3⟩ := LI_come (F := F) hM b2 cA
        rw [d1]
        simp only [bnp_s]
        rw [d2.1.kind, d2.1.b, cIf_t hk3]
        obtain ⟨μ4, s4, f1, f2, f3⟩ := LI_come (F := F) hM d2 cB
        rw [f1]
        simp only [bnp_s]
        rw [f2.1.kind, cIf_f (by rw [hk3]; decide)]
        rw [List.append_assoc] at f2 f3
        refine fin μ4 (s3 ++ s4) f2 (fun p p1 p2 hc => ?_)
        rcases hc with ⟨_, hc | hc⟩ | ⟨hc, _⟩
        · rw [← List.append_assoc]
          exact List.mem_append_left _ (d3 p p1 p2 hc)
        · exact f3 p p1 p2 hc
        · rw [hk3] at hc; exact absurd hc (by decide)
      · rw [cIf_f hk3, cIf_f hk3]
        by_cases hk4 : m_kind μ0 o = 4
        · rw [cIf_t hk4, b2.1.spread]
          obtain ⟨μ3, s3, d1, d2, d3⟩ := LI_come (F := F) hM b2 (k4 hk4)
          rw [d1]
          simp only [bnp_s]
          refine fin μ3 s3 d2 (fun p p1 p2 hc => ?_)
          rcases hc with ⟨hc, _⟩ | ⟨_, hc⟩
          · exact absurd hc hk3
          · exact d3 p p1 p2 hc
        · rw [cIf_f hk4]
          refine fin μ2 [] (by rw [List.append_nil]; exact b2) (fun p p1 p2 hc => ?_)
          rcases hc with ⟨hc, _⟩ | ⟨hc, _⟩
          · exact absurd hc hk3
          · exact absurd hc hk4
