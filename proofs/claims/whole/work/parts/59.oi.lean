/-! the class's row when one object changes, or is new -/
theorem chd_ag {f f' : Nat → Int32} {a : Nat} (ho : okO f a) (h : ∀ i, i < sz f a → f' (a + i) = f (a + i)) {x : Int32} (hx : chd f' a x) : chd f a x := by
  have h3 := okO_3 ho
  have hsz := ho.2
  have e0 : f' a = f a := h 0 (by omega)
  unfold chd at hx ⊢
  rw [lk_congr e0, vl_congr e0] at hx
  rcases hx with ⟨i, hi, e⟩ | ⟨j, hj, e1, e2⟩
  · exact Or.inl ⟨i, hi, by rw [← e, show a + 3 + i = a + (3 + i) by omega, h _ (by omega)]⟩
  · refine Or.inr ⟨j, hj, ?_, ?_⟩
    · rw [show a + 3 + lk f a + 2 * j = a + (3 + lk f a + 2 * j) by omega] at e1 ⊢
      rw [← h _ (by omega)]; exact e1
    · rw [show a + 3 + lk f a + 2 * j + 1 = a + (3 + lk f a + 2 * j + 1) by omega] at e2 ⊢
      rw [← h _ (by omega)]; exact e2
theorem un_ag {f f' : Nat → Int32} {a k : Nat} (h : ∀ i, i < sz f a → f' (a + i) = f (a + i)) (hk : 4 + k / 2 < sz f a) : un f' a k = un f a k := by
  unfold un
  rw [show a + 4 + k / 2 = a + (4 + k / 2) by omega, h _ hk]
theorem NmOk_ag {f f' : Nat → Int32} {a : Nat} (ho : okO f a) (h : ∀ i, i < sz f a → f' (a + i) = f (a + i)) (hn : NmOk f a) : NmOk f' a := by
  have h3 := okO_3 ho
  have e0 : f' a = f a := h 0 (by omega)
  obtain ⟨n1, n2, n, n3, n4, n5, n6⟩ := hn
  refine ⟨by rw [lk_congr e0]; exact n1, by rw [vl_congr e0]; exact n2, n, n3, by rw [h 3 (by omega)]; exact n4, by rw [sz_congr e0]; exact n5, fun q => ?_⟩
  rw [un_ag h (by omega)]
  exact n6 q
theorem sameU_ag {f f' : Nat → Int32} {a b : Nat} (ha : ∀ i, i < sz f a → f' (a + i) = f (a + i)) (hb : ∀ i, i < sz f b → f' (b + i) = f (b + i)) (na : NmOk f a) (nb : NmOk f b) (h : sameU f' a b) : sameU f a b := by
  obtain ⟨h0, h1, n, h2, h3, h4, h5⟩ := na
  obtain ⟨g0, g1, m, g2, g3, g4, g5⟩ := nb
  obtain ⟨e1, e2⟩ := h
  rw [ha 3 (by omega), hb 3 (by omega)] at e1
  rw [ha 3 (by omega)] at e2
  refine ⟨e1, fun k hk => ?_⟩
  have hk2 := hk
  rw [h3, nI_clamp (by omega)] at hk2
  have emn : n = m := by rw [h3, g3] at e1; exact nI_inj (by omega) (by omega) e1
  have := e2 k hk
  rw [un_ag ha (by omega), un_ag hb (by omega)] at this
  exact this
theorem Ch_one {f f' : Nat → Int32} {a0 : Nat} (hok : okO f' a0) (hsz : sz f' a0 = sz f a0) : ∀ (os : List Nat) {a u : Nat}, (∀ b ∈ os, b ≠ a0 → f' b = f b) → Ch f a os u → Ch f' a os u
  | [], a, u, hg, h => h
  | b :: os, a, u, hg, h => by
    obtain ⟨e, ho, h⟩ := h
    subst e
    have ih := Ch_one hok hsz os (fun c hc => hg c (List.mem_cons_of_mem _ hc)) h
    by_cases e : b = a0
    · subst e
      refine ⟨rfl, hok, ?_⟩
      rw [hsz]
      exact ih
    · have e1 := hg b List.mem_cons_self e
      refine ⟨rfl, okO_congr e1 ho, ?_⟩
      rw [sz_congr e1]
      exact ih
theorem OI_one {σ σ' : oS} {os nl : List Nat} {U a0 : Nat} (h : OI σ os U nl) (ha0 : a0 ∈ os) (hE : EqO σ' σ) (hus : o_us σ' = o_us σ) (hlw : o_lw σ' = o_lw σ) (hk5 : kd (o_fw σ) a0 ≠ 5) (hk5' : kd (o_fw σ') a0 ≠ 5) (hout : ∀ x, x < a0 ∨ a0 + sz (o_fw σ) a0 ≤ x → o_fw σ' x = o_fw σ x) (h1 : o_fw σ' (a0 + 1) = -1) (hok : okO (o_fw σ') a0) (hsz : sz (o_fw σ') a0 = sz (o_fw σ) a0) (hpv : ∀ x, chd (o_fw σ') a0 x → x = -1 ∨ ∃ b ∈ os, x = nI b) : OI σ' os U nl := by
  obtain ⟨⟨hC, hU, hlw0, hP1, hP2⟩, ⟨hQ1, hQ2⟩, hu, ⟨hN1, hN2, hN3, hN4⟩, hnk, hnd, hnm, hds, ⟨L, l1, l2, l3, l4, l5⟩, st, d1, d2⟩ := h
  obtain ⟨E1, E2, E3, E4, E5, E6, E7⟩ := hE
  have hag : ∀ a ∈ os, a ≠ a0 → ∀ i, i < sz (o_fw σ) a → o_fw σ' (a + i) = o_fw σ (a + i) := fun a ha hne i hi => by
    refine hout _ ?_
    rcases Nat.lt_or_gt_of_ne hne with hl | hl
    · have := Ch_sep os hC ha ha0 hl; omega
    · have := Ch_sep os hC ha0 ha hl; omega
  have hnl : ∀ a ∈ nl, a ∈ os ∧ a ≠ a0 := fun a ha => ⟨((hnk a).mp ha).1, fun q => hk5 (q ▸ ((hnk a).mp ha).2)⟩
  have hno : ∀ a ∈ nl, ∀ i, i < sz (o_fw σ) a → o_fw σ' (a + i) = o_fw σ (a + i) := fun a ha => hag a (hnl a ha).1 (hnl a ha).2
  have hok0 : ∀ a ∈ os, okO (o_fw σ) a := fun a ha => (Ch_mem os hC ha).2.2
  have hhd : ∀ b ∈ os, b ≠ a0 → o_fw σ' b = o_fw σ b := fun b hb hne => hag b hb hne 0 (by have := okO_3 (hok0 b hb); omega)
  refine ⟨⟨Ch_one hok hsz os hhd hC, by omega, by omega, fun a ha x hx => ?_, by rw [E2]; exact hP2⟩, ⟨E6.trans hQ1, fun a ha => ?_⟩, hus.trans hu, ⟨E5.trans hN1, by omega, by omega, by rw [E4]; exact hN4⟩, fun a => ?_, hnd, fun a ha => NmOk_ag (hok0 a (hnl a ha).1) (hno a ha) (hnm a ha), fun a ha b hb hab => hds a ha b hb (sameU_ag (hno a ha) (hno b hb) (hnm a ha) (hnm b hb) hab), ⟨L, E1.trans l1, l2, l3, by omega, by omega⟩, st, E7.trans d1, d2.1, by rw [E3]; exact d2.2⟩
  · by_cases e : a = a0
    · subst e; exact hpv x hx
    · exact hP1 a ha x (chd_ag (hok0 a ha) (hag a ha e) hx)
  · by_cases e : a = a0
    · subst e; exact h1
    · rw [hag a ha e 1 (by have := okO_3 (hok0 a ha); omega)]; exact hQ2 a ha
  · rw [hnk a]
    constructor
    · rintro ⟨q1, q2⟩
      have e : a ≠ a0 := fun q => hk5 (q ▸ q2)
      exact ⟨q1, by rw [kd_congr (hhd a q1 e)]; exact q2⟩
    · rintro ⟨q1, q2⟩
      have e : a ≠ a0 := fun q => hk5' (q ▸ q2)
      exact ⟨q1, by rw [kd_congr (hhd a q1 e)] at q2; exact q2⟩
theorem Ch_app {f : Nat → Int32} : ∀ (os : List Nat) {a u : Nat}, Ch f a os u → okO f u → Ch f a (os ++ [u]) (u + sz f u)
  | [], a, u, h, ho => by
    have e : a = u := h
    subst e
    exact ⟨rfl, ho, rfl⟩
  | b :: os, a, u, h, ho => ⟨h.1, h.2.1, Ch_app os h.2.2 ho⟩
/-- the state when an object was made and filled: what holds of its head -/
def Ext (σ1 σ3 : oS) (U k l v s : Nat) : Prop := EqO σ3 σ1 ∧ o_us σ3 = nI (U + s) ∧ o_md σ3 = o_md σ1 + 1 ∧ o_lw σ1 ≤ o_lw σ3 ∧ U + s ≤ o_lw σ3 ∧ (∀ L, o_lim σ1 = nI L → L ≤ 1048576 → o_lw σ3 ≤ L) ∧ (∀ x, x < U → o_fw σ3 x = o_fw σ1 x) ∧ o_fw σ3 U = nI (hdr k l v s) ∧ o_fw σ3 (U + 1) = -1
theorem Mk.ext {σ1 σ2 : oS} {U k l v s : Nat} (h : Mk σ1 σ2 U k l v s) : Ext σ1 σ2 U k l v s := by
  obtain ⟨h1, h2, h3, h4, h5, h6, n1, n2, n3, n4⟩ := h
  exact ⟨h1, h2, h3, h4, h5, h6, n1, n2, n3⟩
/-- a word of the new object, behind its head, is put -/
theorem Ext.put {σ1 σ2 : oS} {U k l v s x : Nat} {w : Int32} (h : Ext σ1 σ2 U k l v s) (hx : U + 2 ≤ x) : Ext σ1 (o_s_fw σ2 (upd (o_fw σ2) x w)) U k l v s := by
  obtain ⟨h1, h2, h3, h4, h5, h6, n1, n2, n3⟩ := h
  exact ⟨h1, h2, h3, h4, h5, h6, fun y hy => (pk_un (by omega)).trans (n1 y hy), (pk_un (by omega)).trans n2, (pk_un (by omega)).trans n3⟩
theorem Ext.fp {σ1 σ2 : oS} {U k l v s : Nat} {x : Nat → Int32} (h : Ext σ1 σ2 U k l v s) : Ext σ1 (o_s_fp σ2 x) U k l v s := h
theorem OI_new {σ1 σ3 : oS} {os nl : List Nat} {U k l v s : Nat} (h : OI σ1 os U nl) (hX : Ext σ1 σ3 U k l v s) (hk : k < 16) (hk5 : k ≠ 5) (hl : l < 16) (hv : v < 16) (hs : s < 4096) (hs3 : 3 + l + 2 * v ≤ s) (hpl : ∀ i, i < l → o_fw σ3 (U + 3 + i) = -1 ∨ ∃ b ∈ os, o_fw σ3 (U + 3 + i) = nI b) (hpv : ∀ j, j < v → ¬ isR (o_fw σ3 (U + 3 + l + 2 * j))) : OI σ3 (os ++ [U]) (U + s) nl := by
  obtain ⟨⟨hC, hU, hlw0, hP1, hP2⟩, ⟨hQ1, hQ2⟩, hu, ⟨hN1, hN2, hN3, hN4⟩, hnk, hnd, hnm, hds, ⟨L, l1, l2, l3, l4, l5⟩, st, d1, d2⟩ := h
  obtain ⟨⟨E1, E2, E3, E4, E5, E6, E7⟩, x1, x2, x3, x4, x5, x6, x7, x8⟩ := hX
  obtain ⟨r1, r2, r3, r4, r5⟩ := hdr_rd hk hl hv hs x7
  have hok0 : ∀ a ∈ os, okO (o_fw σ1) a := fun a ha => (Ch_mem os hC ha).2.2
  have hag : ∀ a ∈ os, ∀ i, i < sz (o_fw σ1) a → o_fw σ3 (a + i) = o_fw σ1 (a + i) := fun a ha i hi => x6 _ (by have := (Ch_mem os hC ha).2.1; omega)
  have hno : ∀ a ∈ nl, ∀ i, i < sz (o_fw σ1) a → o_fw σ3 (a + i) = o_fw σ1 (a + i) := fun a ha => hag a ((hnk a).mp ha).1
  have hokU : okO (o_fw σ3) U := ⟨r5, by rw [r2, r3, r4]; exact hs3⟩
  have hhd : ∀ b ∈ os, o_fw σ3 b = o_fw σ1 b := fun b hb => hag b hb 0 (by have := okO_3 (hok0 b hb); omega)
  have hw := x5 L l1 l3
  have hC3 : Ch (o_fw σ3) 0 (os ++ [U]) (U + s) := by
    have := Ch_app os (Ch_congr os hhd hC) hokU
    rw [r4] at this
    exact this
  have up : ∀ x, (x = -1 ∨ ∃ b ∈ os, x = nI b) → x = -1 ∨ ∃ b ∈ os ++ [U], x = nI b := fun x hx => by
    rcases hx with e | ⟨b, hb, e⟩
    · exact Or.inl e
    · exact Or.inr ⟨b, List.mem_append_left _ hb, e⟩
  refine ⟨⟨hC3, x4, by omega, fun a ha x hx => ?_, fun r hr => by rw [E2]; exact up _ (hP2 r hr)⟩, ⟨E6.trans hQ1, fun a ha => ?_⟩, x1, ⟨E5.trans hN1, by omega, by omega, by rw [E4]; exact hN4⟩, fun a => ?_, hnd, fun a ha => NmOk_ag (hok0 a ((hnk a).mp ha).1) (hno a ha) (hnm a ha), fun a ha b hb hab => hds a ha b hb (sameU_ag (hno a ha) (hno b hb) (hnm a ha) (hnm b hb) hab), ⟨L, E1.trans l1, l2, l3, by omega, hw⟩, st, E7.trans d1, d2.1, by rw [E3]; exact d2.2⟩
  · rcases List.mem_append.mp ha with ha | ha
    · exact up x (hP1 a ha x (chd_ag (hok0 a ha) (hag a ha) hx))
    · rw [List.mem_singleton.mp ha] at hx
      rcases hx with ⟨i, hi, e⟩ | ⟨j, hj, e1, e2⟩
      · rw [r2] at hi
        rw [← e]
        exact up _ (hpl i hi)
      · rw [r3] at hj
        rw [r2] at e1
        exact absurd e1 (hpv j hj)
  · rcases List.mem_append.mp ha with ha | ha
    · rw [hag a ha 1 (by have := okO_3 (hok0 a ha); omega)]; exact hQ2 a ha
    · rw [List.mem_singleton.mp ha]; exact x8
  · rw [hnk a]
    constructor
    · rintro ⟨q1, q2⟩
      exact ⟨List.mem_append_left _ q1, by rw [kd_congr (hhd a q1)]; exact q2⟩
    · rintro ⟨q1, q2⟩
      rcases List.mem_append.mp q1 with q1 | q1
      · exact ⟨q1, by rw [kd_congr (hhd a q1)] at q2; exact q2⟩
      · rw [List.mem_singleton.mp q1, r1] at q2
        exact absurd q2 hk5
