/-! the reference looks for what a root leads to -/
theorem nd_filter_ne {x : Nat} : ∀ (l : List Nat), l.Nodup → l.length ≤ (l.filter (fun y => decide (y ≠ x))).length + 1
  | [], h => by simp
  | y :: l, h => by
    obtain ⟨h1, h2⟩ := List.nodup_cons.mp h
    by_cases e : y = x
    · subst e
      rw [List.filter_cons_of_neg (by simp)]
      have : l.filter (fun z => decide (z ≠ y)) = l := List.filter_eq_self.mpr (fun z hz => by
        have : z ≠ y := fun q => h1 (q ▸ hz)
        simpa using this)
      rw [this, List.length_cons]
      omega
    · have ih := nd_filter_ne (x := x) l h2
      rw [List.filter_cons_of_pos (by simpa using e), List.length_cons, List.length_cons]
      omega
/-- different numbers below M are at most M -/
theorem nd_len : ∀ (M : Nat) (l : List Nat), l.Nodup → (∀ x ∈ l, x < M) → l.length ≤ M
  | 0, l, h, hx => by
    cases l with
    | nil => exact Nat.le_refl _
    | cons y l => exact absurd (hx y List.mem_cons_self) (by omega)
  | M + 1, l, h, hx => by
    have h1 := nd_filter_ne (x := M) l h
    have h2 := nd_len M (l.filter (fun y => decide (y ≠ M))) (h.filter _) (fun x hx2 => by
      obtain ⟨h3, h4⟩ := List.mem_filter.mp hx2
      have h5 := hx x h3
      have h6 : x ≠ M := by simpa using h4
      omega)
    omega
/-- all but what a search uses is as it was -/
def SameM (μ μ0 : mS) : Prop := m_thrown μ = m_thrown μ0 ∧ m_limit μ = m_limit μ0 ∧ m_root μ = m_root μ0 ∧ m_objects μ = m_objects μ0 ∧ m_kind μ = m_kind μ0 ∧ m_links μ = m_links μ0 ∧ m_values μ = m_values μ0 ∧ m_plain μ = m_plain μ0 ∧ m_link μ = m_link μ0 ∧ m_number μ = m_number μ0 ∧ m_refers μ = m_refers μ0 ∧ m_word μ = m_word μ0 ∧ m_length μ = m_length μ0 ∧ m_madeOf μ = m_madeOf μ0 ∧ m_a μ = m_a μ0 ∧ m_b μ = m_b μ0 ∧ m_units μ = m_units μ0 ∧ m_spread μ = m_spread μ0
theorem SameM.rf (μ : mS) : SameM μ μ := ⟨rfl, rfl, rfl, rfl, rfl, rfl, rfl, rfl, rfl, rfl, rfl, rfl, rfl, rfl, rfl, rfl, rfl, rfl⟩
theorem SameM.tr {μ μ1 μ2 : mS} (h : SameM μ2 μ1) (g : SameM μ1 μ) : SameM μ2 μ := by
  obtain ⟨h0, h1, h2, h3, h4, h5, h6, h7, h8, h9, h10, h11, h12, h13, h14, h15, h16, h17⟩ := h
  obtain ⟨gh0, gh1, gh2, gh3, gh4, gh5, gh6, gh7, gh8, gh9, gh10, gh11, gh12, gh13, gh14, gh15, gh16, gh17⟩ := g
  exact ⟨h0.trans gh0, h1.trans gh1, h2.trans gh2, h3.trans gh3, h4.trans gh4, h5.trans gh5, h6.trans gh6, h7.trans gh7, h8.trans gh8, h9.trans gh9, h10.trans gh10, h11.trans gh11, h12.trans gh12, h13.trans gh13, h14.trans gh14, h15.trans gh15, h16.trans gh16, h17.trans gh17⟩
theorem SameM_there (μ : mS) (x : Nat → Int32) : SameM (m_s_there μ x) μ := ⟨mgs_thrown_there μ x, mgs_limit_there μ x, mgs_root_there μ x, mgs_objects_there μ x, mgs_kind_there μ x, mgs_links_there μ x, mgs_values_there μ x, mgs_plain_there μ x, mgs_link_there μ x, mgs_number_there μ x, mgs_refers_there μ x, mgs_word_there μ x, mgs_length_there μ x, mgs_madeOf_there μ x, mgs_a_there μ x, mgs_b_there μ x, mgs_units_there μ x, mgs_spread_there μ x⟩
theorem SameM_waiting (μ : mS) (x : Nat → Int32) : SameM (m_s_waiting μ x) μ := ⟨mgs_thrown_waiting μ x, mgs_limit_waiting μ x, mgs_root_waiting μ x, mgs_objects_waiting μ x, mgs_kind_waiting μ x, mgs_links_waiting μ x, mgs_values_waiting μ x, mgs_plain_waiting μ x, mgs_link_waiting μ x, mgs_number_waiting μ x, mgs_refers_waiting μ x, mgs_word_waiting μ x, mgs_length_waiting μ x, mgs_madeOf_waiting μ x, mgs_a_waiting μ x, mgs_b_waiting μ x, mgs_units_waiting μ x, mgs_spread_waiting μ x⟩
theorem SameM_wait (μ : mS) (x : Int32) : SameM (m_s_wait μ x) μ := ⟨mgs_thrown_wait μ x, mgs_limit_wait μ x, mgs_root_wait μ x, mgs_objects_wait μ x, mgs_kind_wait μ x, mgs_links_wait μ x, mgs_values_wait μ x, mgs_plain_wait μ x, mgs_link_wait μ x, mgs_number_wait μ x, mgs_refers_wait μ x, mgs_word_wait μ x, mgs_length_wait μ x, mgs_madeOf_wait μ x, mgs_a_wait μ x, mgs_b_wait μ x, mgs_units_wait μ x, mgs_spread_wait μ x⟩
theorem SameM.thrown {μ μ0 : mS} (h : SameM μ μ0) : m_thrown μ = m_thrown μ0 := h.1
theorem SameM.limit {μ μ0 : mS} (h : SameM μ μ0) : m_limit μ = m_limit μ0 := h.2.1
theorem SameM.root {μ μ0 : mS} (h : SameM μ μ0) : m_root μ = m_root μ0 := h.2.2.1
theorem SameM.objects {μ μ0 : mS} (h : SameM μ μ0) : m_objects μ = m_objects μ0 := h.2.2.2.1
theorem SameM.kind {μ μ0 : mS} (h : SameM μ μ0) : m_kind μ = m_kind μ0 := h.2.2.2.2.1
theorem SameM.links {μ μ0 : mS} (h : SameM μ μ0) : m_links μ = m_links μ0 := h.2.2.2.2.2.1
theorem SameM.values {μ μ0 : mS} (h : SameM μ μ0) : m_values μ = m_values μ0 := h.2.2.2.2.2.2.1
theorem SameM.plain {μ μ0 : mS} (h : SameM μ μ0) : m_plain μ = m_plain μ0 := h.2.2.2.2.2.2.2.1
theorem SameM.link {μ μ0 : mS} (h : SameM μ μ0) : m_link μ = m_link μ0 := h.2.2.2.2.2.2.2.2.1
theorem SameM.number {μ μ0 : mS} (h : SameM μ μ0) : m_number μ = m_number μ0 := h.2.2.2.2.2.2.2.2.2.1
theorem SameM.refers {μ μ0 : mS} (h : SameM μ μ0) : m_refers μ = m_refers μ0 := h.2.2.2.2.2.2.2.2.2.2.1
theorem SameM.word {μ μ0 : mS} (h : SameM μ μ0) : m_word μ = m_word μ0 := h.2.2.2.2.2.2.2.2.2.2.2.1
theorem SameM.length {μ μ0 : mS} (h : SameM μ μ0) : m_length μ = m_length μ0 := h.2.2.2.2.2.2.2.2.2.2.2.2.1
theorem SameM.madeOf {μ μ0 : mS} (h : SameM μ μ0) : m_madeOf μ = m_madeOf μ0 := h.2.2.2.2.2.2.2.2.2.2.2.2.2.1
theorem SameM.a {μ μ0 : mS} (h : SameM μ μ0) : m_a μ = m_a μ0 := h.2.2.2.2.2.2.2.2.2.2.2.2.2.2.1
theorem SameM.b {μ μ0 : mS} (h : SameM μ μ0) : m_b μ = m_b μ0 := h.2.2.2.2.2.2.2.2.2.2.2.2.2.2.2.1
theorem SameM.units {μ μ0 : mS} (h : SameM μ μ0) : m_units μ = m_units μ0 := h.2.2.2.2.2.2.2.2.2.2.2.2.2.2.2.2.1
theorem SameM.spread {μ μ0 : mS} (h : SameM μ μ0) : m_spread μ = m_spread μ0 := h.2.2.2.2.2.2.2.2.2.2.2.2.2.2.2.2.2
/-- the search's state: wl is found, in this order -/
def LI (μ0 : mS) (M : Nat) (P : Nat → Prop) (μ : mS) (wl : List Nat) : Prop :=
  SameM μ μ0 ∧ m_wait μ = nI wl.length ∧ (∀ j a, wl[j]? = some a → m_waiting μ j = nI a) ∧ wl.Nodup ∧ (∀ o ∈ wl, 1 ≤ o ∧ o < M ∧ P o) ∧ ∀ o, o < M → (m_there μ o = 0 ∧ o ∉ wl) ∨ (m_there μ o = 1 ∧ o ∈ wl)
theorem narb1 : vp_nar .boolean 1 = 1 := rfl
theorem narb0 : vp_nar .boolean 0 = 0 := rfl
/-- what may come: nothing, or a number -/
def Cm (M : Nat) (P : Nat → Prop) (x : Int32) : Prop := x = 0 ∨ ∃ o, x = nI o ∧ 1 ≤ o ∧ o < M ∧ P o
theorem LI_come {F : Nat} {μ0 μ : mS} {M : Nat} {P : Nat → Prop} {wl : List Nat} {x : Int32} (hM : M ≤ 4000) (hI : LI μ0 M P μ wl) (hx : Cm M P x) :
    ∃ μ' s, fX1_come F μ x = some μ' ∧ LI μ0 M P μ' (wl ++ s) ∧ ∀ o, 1 ≤ o → o < M → x = nI o → o ∈ wl ++ s := by
  rcases hx with e | ⟨o, e, h1, h2, hP⟩
  · subst e
    refine ⟨μ, [], ?_, by rw [List.append_nil]; exact hI, fun o h1 h2 q => ?_⟩
    · unfold fX1_come; rw [cIf_t rfl]
    · exact absurd q.symm (nI_ne0 (by omega) (by omega))
  · subst e
    obtain ⟨eμ, i1, i2, i3, i4, i5⟩ := hI
    have hlen : wl.length ≤ M := nd_len M wl i3 (fun y hy => (i4 y hy).2.1)
    rcases i5 o h2 with ⟨h3, h4⟩ | ⟨h3, h4⟩
    · have hnd : (wl ++ [o]).Nodup := by
        rw [List.nodup_append]
        refine ⟨i3, by simp, fun y hy z hz => ?_⟩
        rw [List.mem_singleton.mp hz]
        exact fun q => h4 (q ▸ hy)
      have hlen2 : (wl ++ [o]).length ≤ M := nd_len M _ hnd (fun y hy => by
        rcases List.mem_append.mp hy with hy | hy
        · exact (i4 y hy).2.1
        · rw [List.mem_singleton.mp hy]; exact h2)
      simp only [List.length_append, List.length_cons, List.length_nil] at hlen2
      refine ⟨m_s_wait (m_s_waiting (m_s_there μ (upd (m_there μ) o 1)) (upd (m_waiting μ) wl.length (nI o))) (nI (wl.length + 1)), [o], ?_, ⟨?_, ?_, ?_, hnd, ?_, ?_⟩, fun p p1 p2 q => ?_⟩
      · unfold fX1_come
        rw [cIf_f (nI_ne0 (by omega) (by omega)), ck_t (vp_in_nI (by omega) (by omega)), nI_clamp (by omega)]
        show cIf (m_there μ o = 0) _ _ = _
        rw [cIf_t h3, ck_t (vp_in_nI (by omega) (by omega)), narb1]
        show ck (vp_in (m_wait μ) 4096) (nmd (m_s_waiting (m_s_there μ (upd (m_there μ) o 1)) (upd (m_waiting μ) (m_wait μ).toNatClampNeg (nI o))) (fun σ8 => nmd (m_s_wait σ8 (m_wait σ8 + 1)) (fun σ9 => some σ9))) = _
        rw [i1, ck_t (vp_in_nI (by omega) (by omega)), nI_clamp (by omega)]
        show some (m_s_wait (m_s_waiting (m_s_there μ (upd (m_there μ) o 1)) (upd (m_waiting μ) wl.length (nI o))) (m_wait μ + 1)) = _
        rw [i1, nI_1]
      · exact ((SameM_wait _ _).tr ((SameM_waiting _ _).tr (SameM_there _ _))).tr eμ
      · show nI (wl.length + 1) = _
        simp only [List.length_append, List.length_cons, List.length_nil]
      · intro j a hj
        show upd (m_waiting μ) wl.length (nI o) j = nI a
        unfold upd
        by_cases hjl : j = wl.length
        · rw [if_pos hjl]
          subst hjl
          rw [List.getElem?_append_right (Nat.le_refl _), Nat.sub_self] at hj
          have : o = a := by simpa using hj
          rw [this]
        · rw [if_neg hjl]
          have hjlt : j < (wl ++ [o]).length := (List.getElem?_eq_some_iff.mp hj).1
          simp only [List.length_append, List.length_cons, List.length_nil] at hjlt
          rw [List.getElem?_append_left (by omega)] at hj
          exact i2 j a hj
      · intro p hp
        rcases List.mem_append.mp hp with hp | hp
        · exact i4 p hp
        · rw [List.mem_singleton.mp hp]; exact ⟨h1, h2, hP⟩
      · intro p hp
        show (upd (m_there μ) o 1 p = 0 ∧ _) ∨ (upd (m_there μ) o 1 p = 1 ∧ _)
        unfold upd
        by_cases hpo : p = o
        · rw [if_pos hpo]
          exact Or.inr ⟨rfl, by rw [hpo]; simp⟩
        · rw [if_neg hpo]
          rcases i5 p hp with ⟨q1, q2⟩ | ⟨q1, q2⟩
          · exact Or.inl ⟨q1, fun q => by
              rcases List.mem_append.mp q with q | q
              · exact q2 q
              · exact hpo (List.mem_singleton.mp q)⟩
          · exact Or.inr ⟨q1, List.mem_append_left _ q2⟩
      · have : o = p := nI_inj (by omega) (by omega) q
        rw [← this]; simp
    · refine ⟨μ, [], ?_, by rw [List.append_nil]; exact ⟨eμ, i1, i2, i3, i4, i5⟩, fun p p1 p2 q => ?_⟩
      · unfold fX1_come
        rw [cIf_f (nI_ne0 (by omega) (by omega)), ck_t (vp_in_nI (by omega) (by omega)), nI_clamp (by omega)]
        show cIf (m_there μ o = 0) _ _ = _
        rw [cIf_f (by rw [h3]; decide)]
      · have : o = p := nI_inj (by omega) (by omega) q
        rw [← this, List.append_nil]; exact h4
theorem LI.same {μ0 μ : mS} {M : Nat} {P : Nat → Prop} {wl : List Nat} (h : LI μ0 M P μ wl) : m_links μ = m_links μ0 ∧ m_values μ = m_values μ0 ∧ m_link μ = m_link μ0 ∧ m_refers μ = m_refers μ0 ∧ m_kind μ = m_kind μ0 ∧ m_a μ = m_a μ0 ∧ m_b μ = m_b μ0 ∧ m_spread μ = m_spread μ0 ∧ m_root μ = m_root μ0 ∧ m_objects μ = m_objects μ0 := ⟨h.1.links, h.1.values, h.1.link, h.1.refers, h.1.kind, h.1.a, h.1.b, h.1.spread, h.1.root, h.1.objects⟩
/-- the flags are cleared -/
theorem P_look_clear {F : Nat} {K : Int32 → mS → Option mS} {M : Nat} (hM : M ≤ 4000) (k : Nat) : ∀ (n i : Nat) (μ : mS), i + k = M → k < n → m_objects μ = nI M →
    ∃ t, LX1_look_7 F K n (nI i) μ = K (nI M) (m_s_there μ t) ∧ (∀ o, i ≤ o → o < M → t o = 0) ∧ ∀ o, o < i → t o = m_there μ o := by
  induction k with
  | zero =>
    intro n i μ hi hn ho
    obtain ⟨n, rfl⟩ : ∃ m, n = m + 1 := ⟨n - 1, by omega⟩
    have e : i = M := by omega
    subst e
    refine ⟨m_there μ, ?_, fun o h1 h2 => absurd h2 (by omega), fun _ _ => rfl⟩
    rw [LX1_look_7, ho, cIf_t (nI_le (Nat.le_refl _) (by omega))]
    rfl
  | succ k ih =>
    intro n i μ hi hn ho
    obtain ⟨n, rfl⟩ : ∃ m, n = m + 1 := ⟨n - 1, by omega⟩
    obtain ⟨t, h1, h2, h3⟩ := ih n (i + 1) (m_s_there μ (upd (m_there μ) i 0)) (by omega) (by omega) ho
    refine ⟨t, ?_, fun o q1 q2 => ?_, fun o q => ?_⟩
    · rw [LX1_look_7, ho, cIf_f (nI_ge (by omega) (by omega)), ck_t (vp_in_nI (by omega) (by omega)), nI_clamp (by omega), narb0]
      show LX1_look_7 F K n (nI i + 1) (m_s_there μ (upd (m_there μ) i 0)) = _
      rw [nI_1, h1]
      rfl
    · by_cases e : o = i
      · subst e
        rw [h3 o (by omega)]
        show upd (m_there μ) o 0 o = 0
        unfold upd; rw [if_pos rfl]
      · exact h2 o (by omega) q2
    · rw [h3 o (by omega)]
      show upd (m_there μ) i 0 o = _
      unfold upd; rw [if_neg (by omega)]
/-- a row of leads comes, one behind the other -/
theorem P_look_roots {F : Nat} {K : Int32 → mS → Option mS} {μ0 : mS} {M : Nat} {P : Nat → Prop} (hM : M ≤ 4000) (hr : ∀ q, q < 24 → Cm M P (m_root μ0 q)) (k : Nat) : ∀ (n i : Nat) (μ : mS) (wl : List Nat), i + k = 24 → k < n → LI μ0 M P μ wl → (∀ q, q < i → ∀ o, 1 ≤ o → o < M → m_root μ0 q = nI o → o ∈ wl) →
    ∃ μ' s, LX1_look_30 F K n (nI i) μ = K (nI 24) μ' ∧ LI μ0 M P μ' (wl ++ s) ∧ ∀ q, q < 24 → ∀ o, 1 ≤ o → o < M → m_root μ0 q = nI o → o ∈ wl ++ s := by
  induction k with
  | zero =>
    intro n i μ wl hi hn hI hm
    obtain ⟨n, rfl⟩ : ∃ m, n = m + 1 := ⟨n - 1, by omega⟩
    have e : i = 24 := by omega
    subst e
    refine ⟨μ, [], ?_, by rw [List.append_nil]; exact hI, by rw [List.append_nil]; exact hm⟩
    rw [LX1_look_30, cIf_t (by rw [lit24]; exact nI_le (Nat.le_refl _) (by omega))]
  | succ k ih =>
    intro n i μ wl hi hn hI hm
    obtain ⟨n, rfl⟩ : ∃ m, n = m + 1 := ⟨n - 1, by omega⟩
    have hs := hI.same.2.2.2.2.2.2.2.2.1
    obtain ⟨μ1, s1, h1, h2, h3⟩ := LI_come (F := F) hM hI (x := m_root μ i) (by rw [hs]; exact hr i (by omega))
    obtain ⟨μ2, s2, g1, g2, g3⟩ := ih n (i + 1) μ1 (wl ++ s1) (by omega) (by omega) h2 (fun q hq o o1 o2 e => by
      by_cases hqi : q = i
      · subst hqi; exact h3 o o1 o2 (by rw [hs]; exact e)
      · exact List.mem_append_left _ (hm q (by omega) o o1 o2 e))
    refine ⟨μ2, s1 ++ s2, ?_, by rw [← List.append_assoc]; exact g2, by rw [← List.append_assoc]; exact g3⟩
    rw [LX1_look_30, cIf_f (by rw [lit24]; exact nI_ge (by omega) (by omega)), ck_t (vp_in_nI (by omega) (by omega)), nI_clamp (by omega)]
    show bnp (fX1_come F μ (m_root μ i)) _ = _
    rw [h1]
    show LX1_look_30 F K n (nI i + 1) μ1 = _
    rw [nI_1]
    exact g1
theorem P_look_links {F : Nat} {μ0 : mS} {M : Nat} {P : Nat → Prop} {o l : Nat} (hM : M ≤ 4000) (ho : o < M) (hl : m_links μ0 o = nI l) (hl8 : l ≤ 8) (hr : ∀ j, j < l → Cm M P (m_link μ0 (8 * o + j))) (k : Nat) : ∀ (n i : Nat) (μ : mS) (wl : List Nat), i + k = l → k < n → LI μ0 M P μ wl → (∀ j, j < i → ∀ p, 1 ≤ p → p < M → m_link μ0 (8 * o + j) = nI p → p ∈ wl) →
    ∃ μ' s, (∀ (K : Int32 → mS → Option mS) (v1 : Int32), LX1_look_74 F K v1 (nI o) n (nI (8 * o + i)) μ = K (nI (8 * o + l)) μ') ∧ LI μ0 M P μ' (wl ++ s) ∧ ∀ j, j < l → ∀ p, 1 ≤ p → p < M → m_link μ0 (8 * o + j) = nI p → p ∈ wl ++ s := by
  induction k with
  | zero =>
    intro n i μ wl hi hn hI hm
    obtain ⟨n, rfl⟩ : ∃ m, n = m + 1 := ⟨n - 1, by omega⟩
    have e : i = l := by omega
    subst e
    refine ⟨μ, [], ?_, by rw [List.append_nil]; exact hI, by rw [List.append_nil]; exact hm⟩
    intro K v1
    rw [LX1_look_74, ck_t (vp_in_nI (by omega) (by omega)), nI_clamp (by omega), hI.same.1, hl]
    show cIf (8 * nI o + nI i ≤ nI (8 * o + i)) _ _ = _
    rw [show (8 : Int32) * nI o = nI (8 * o) from pk_mul 8 o, nI_add, cIf_t (nI_le (Nat.le_refl _) (by omega))]
  | succ k ih =>
    intro n i μ wl hi hn hI hm
    obtain ⟨n, rfl⟩ : ∃ m, n = m + 1 := ⟨n - 1, by omega⟩
    have hs := hI.same.2.2.1
    obtain ⟨μ1, s1, h1, h2, h3⟩ := LI_come (F := F) hM hI (x := m_link μ (8 * o + i)) (by rw [hs]; exact hr i (by omega))
    obtain ⟨μ2, s2, g1, g2, g3⟩ := ih n (i + 1) μ1 (wl ++ s1) (by omega) (by omega) h2 (fun q hq p p1 p2 e => by
      by_cases hqi : q = i
      · subst hqi; exact h3 p p1 p2 (by rw [hs]; exact e)
      · exact List.mem_append_left _ (hm q (by omega) p p1 p2 e))
    refine ⟨μ2, s1 ++ s2, ?_, by rw [← List.append_assoc]; exact g2, by rw [← List.append_assoc]; exact g3⟩
    intro K v1
    rw [LX1_look_74, ck_t (vp_in_nI (by omega) (by omega)), nI_clamp (n := o) (by omega), hI.same.1, hl]
    show cIf (8 * nI o + nI l ≤ nI (8 * o + i)) _ _ = _
    rw [show (8 : Int32) * nI o = nI (8 * o) from pk_mul 8 o, nI_add, cIf_f (nI_ge (by omega) (by omega)), ck_t (vp_in_nI (by omega) (by omega)), nI_clamp (by omega)]
    show bnp (fX1_come F μ (m_link μ (8 * o + i))) _ = _
    rw [h1]
    show LX1_look_74 F K v1 (nI o) n (nI (8 * o + i) + 1) μ1 = _
    rw [nI_1]
    exact g1 K v1
theorem P_look_vals {F : Nat} {μ0 : mS} {M : Nat} {P : Nat → Prop} {o l : Nat} (hM : M ≤ 4000) (ho : o < M) (hl : m_values μ0 o = nI l) (hl8 : l ≤ 8) (hr : ∀ j, j < l → Cm M P (m_refers μ0 (8 * o + j))) (k : Nat) : ∀ (n i : Nat) (μ : mS) (wl : List Nat), i + k = l → k < n → LI μ0 M P μ wl → (∀ j, j < i → ∀ p, 1 ≤ p → p < M → m_refers μ0 (8 * o + j) = nI p → p ∈ wl) →
    ∃ μ' s, (∀ (K : Int32 → mS → Option mS) (v1 : Int32), LX1_look_110 F K v1 (nI o) n (nI (8 * o + i)) μ = K (nI (8 * o + l)) μ') ∧ LI μ0 M P μ' (wl ++ s) ∧ ∀ j, j < l → ∀ p, 1 ≤ p → p < M → m_refers μ0 (8 * o + j) = nI p → p ∈ wl ++ s := by
  induction k with
  | zero =>
    intro n i μ wl hi hn hI hm
    obtain ⟨n, rfl⟩ : ∃ m, n = m + 1 := ⟨n - 1, by omega⟩
    have e : i = l := by omega
    subst e
    refine ⟨μ, [], ?_, by rw [List.append_nil]; exact hI, by rw [List.append_nil]; exact hm⟩
    intro K v1
    rw [LX1_look_110, ck_t (vp_in_nI (by omega) (by omega)), nI_clamp (by omega), hI.same.2.1, hl]
    show cIf (8 * nI o + nI i ≤ nI (8 * o + i)) _ _ = _
    rw [show (8 : Int32) * nI o = nI (8 * o) from pk_mul 8 o, nI_add, cIf_t (nI_le (Nat.le_refl _) (by omega))]
  | succ k ih =>
    intro n i μ wl hi hn hI hm
    obtain ⟨n, rfl⟩ : ∃ m, n = m + 1 := ⟨n - 1, by omega⟩
    have hs := hI.same.2.2.2.1
    obtain ⟨μ1, s1, h1, h2, h3⟩ := LI_come (F := F) hM hI (x := m_refers μ (8 * o + i)) (by rw [hs]; exact hr i (by omega))
    obtain ⟨μ2, s2, g1, g2, g3⟩ := ih n (i + 1) μ1 (wl ++ s1) (by omega) (by omega) h2 (fun q hq p p1 p2 e => by
      by_cases hqi : q = i
      · subst hqi; exact h3 p p1 p2 (by rw [hs]; exact e)
      · exact List.mem_append_left _ (hm q (by omega) p p1 p2 e))
    refine ⟨μ2, s1 ++ s2, ?_, by rw [← List.append_assoc]; exact g2, by rw [← List.append_assoc]; exact g3⟩
    intro K v1
    rw [LX1_look_110, ck_t (vp_in_nI (by omega) (by omega)), nI_clamp (n := o) (by omega), hI.same.2.1, hl]
    show cIf (8 * nI o + nI l ≤ nI (8 * o + i)) _ _ = _
    rw [show (8 : Int32) * nI o = nI (8 * o) from pk_mul 8 o, nI_add, cIf_f (nI_ge (by omega) (by omega)), ck_t (vp_in_nI (by omega) (by omega)), nI_clamp (by omega)]
    show bnp (fX1_come F μ (m_refers μ (8 * o + i))) _ = _
    rw [h1]
    show LX1_look_110 F K v1 (nI o) n (nI (8 * o + i) + 1) μ1 = _
    rw [nI_1]
    exact g1 K v1
