/-! the chain behind a collection -/
theorem wN_at {f g : Nat → Int32} {a b : Nat} (h : g b = f a) : wN g b = wN f a := by unfold wN; rw [h]
theorem sz_at {f g : Nat → Int32} {a b : Nat} (h : g b = f a) : sz g b = sz f a := by unfold sz; rw [wN_at h]
theorem lk_at {f g : Nat → Int32} {a b : Nat} (h : g b = f a) : lk g b = lk f a := by unfold lk; rw [wN_at h]
theorem vl_at {f g : Nat → Int32} {a b : Nat} (h : g b = f a) : vl g b = vl f a := by unfold vl; rw [wN_at h]
theorem kd_at {f g : Nat → Int32} {a b : Nat} (h : g b = f a) : kd g b = kd f a := by unfold kd; rw [wN_at h]
theorem okO_at {f g : Nat → Int32} {a b : Nat} (h : g b = f a) (ho : okO f a) : okO g b := by
  refine ⟨⟨by rw [wN_at h, h]; exact ho.1.1, by rw [wN_at h]; exact ho.1.2⟩, ?_⟩
  rw [lk_at h, vl_at h, sz_at h]
  exact ho.2
def nos (f : Nat → Int32) (mb : Nat → Bool) (os : List Nat) (e : Nat) : List Nat := (os.filter mb).map (psi (sz f) mb os e)
theorem nos_mem {f : Nat → Int32} {mb : Nat → Bool} {os : List Nat} {e x : Nat} : x ∈ nos f mb os e ↔ ∃ b ∈ os, mb b = true ∧ x = psi (sz f) mb os e b := by
  unfold nos
  constructor
  · intro h
    obtain ⟨b, hb, e1⟩ := List.mem_map.mp h
    obtain ⟨h1, h2⟩ := List.mem_filter.mp hb
    exact ⟨b, h1, h2, e1.symm⟩
  · rintro ⟨b, h1, h2, e1⟩
    exact List.mem_map.mpr ⟨b, List.mem_filter.mpr ⟨h1, h2⟩, e1.symm⟩
theorem Ch_new {f g : Nat → Int32} {mb : Nat → Bool} : ∀ (os : List Nat) (a e : Nat) {u : Nat}, Ch f a os u → (∀ b ∈ os, mb b = true → g (psi (sz f) mb os e b) = f b) → Ch g e (nos f mb os e) (tot (sz f) mb os e)
  | [], a, e, u, h, hg => rfl
  | b :: os, a, e, u, h, hg => by
    obtain ⟨e1, ho, h⟩ := h
    subst e1
    have hnd : b ∉ os := fun q => by have := (Ch_mem os h q).1; have := okO_3 ho; omega
    have htl : ∀ c ∈ os, psi (sz f) mb (b :: os) e c = psi (sz f) mb os (if mb b then e + sz f b else e) c := fun c hc => psi_tl (fun q => hnd (q ▸ hc))
    have ih := Ch_new (g := g) (mb := mb) os (b + sz f b) (if mb b then e + sz f b else e) h (fun c hc hm => by rw [← htl c hc]; exact hg c (List.mem_cons_of_mem _ hc) hm)
    have hmap : (os.filter mb).map (psi (sz f) mb (b :: os) e) = nos f mb os (if mb b then e + sz f b else e) := by
      unfold nos
      apply List.map_congr_left
      intro c hc
      exact htl c (List.mem_filter.mp hc).1
    show Ch g e (((b :: os).filter mb).map (psi (sz f) mb (b :: os) e)) (tot (sz f) mb os (if mb b then e + sz f b else e))
    cases hm : mb b with
    | true =>
      have hgb := hg b List.mem_cons_self hm
      rw [psi_hd] at hgb
      rw [List.filter_cons_of_pos hm, List.map_cons, psi_hd, hmap]
      rw [hm] at ih ⊢
      refine ⟨rfl, okO_at hgb ho, ?_⟩
      rw [sz_at hgb]
      exact ih
    | false =>
      rw [List.filter_cons_of_neg (by rw [hm]; decide), hmap]
      rw [hm] at ih ⊢
      exact ih
theorem psi_inj {f : Nat → Int32} {mb : Nat → Bool} {os : List Nat} {U e b c : Nat} (h : Ch f 0 os U) (hb : b ∈ os) (hc : c ∈ os) (hmb : mb b = true) (hmc : mb c = true) (he : psi (sz f) mb os e b = psi (sz f) mb os e c) : b = c := by
  have h3 := okO_3 (Ch_mem os h hb).2.2
  have h4 := okO_3 (Ch_mem os h hc).2.2
  rcases Nat.lt_trichotomy b c with hl | hl | hl
  · have := psi_sep os (e := e) h hb hc hmb hl; omega
  · exact hl
  · have := psi_sep os (e := e) h hc hb hmc hl; omega
/-- a collection leaves a good row behind -/
theorem GC_GI {σ0 σ : oS} {os nl : List Nat} {U : Nat} {mb : Nat → Bool} (hG : GI σ0 os U) (hGC : GC σ0 os nl mb σ) : GI σ (nos (o_fw σ0) mb os 0) (tot (sz (o_fw σ0)) mb os 0) ∧ Qt σ (nos (o_fw σ0) mb os 0) := by
  obtain ⟨hC, hU, hl, hPV⟩ := hG
  obtain ⟨hR, ⟨e1, e2, e3, e4, e5, e6, e7⟩, hu, hr, hc, hn⟩ := hGC
  have hCn : Ch (o_fw σ) 0 (nos (o_fw σ0) mb os 0) (tot (sz (o_fw σ0)) mb os 0) := Ch_new os 0 0 hC (fun b hb hm => (hc b hb hm).1)
  have hbU : ∀ b ∈ os, b + 3 ≤ U := fun b hb => by have h5 := Ch_mem os hC hb; have := okO_3 h5.2.2; omega
  have hpx : ∀ x, (x = -1 ∨ ∃ b ∈ os, x = nI b ∧ mb b = true) → px (psi (sz (o_fw σ0)) mb os 0) x = -1 ∨ ∃ c ∈ nos (o_fw σ0) mb os 0, px (psi (sz (o_fw σ0)) mb os 0) x = nI c := fun x hx => by
    rcases hx with e | ⟨b, hb, e, hm⟩
    · rw [e, px_0]; exact Or.inl rfl
    · have := hbU b hb
      rw [e, px_n (by omega)]
      exact Or.inr ⟨_, nos_mem.mpr ⟨b, hb, hm, rfl⟩, rfl⟩
  refine ⟨⟨hCn, ?_, by omega, fun x hx y hy => ?_, fun q hq => ?_⟩, e5, fun x hx => ?_⟩
  · have := tot_le (mb := mb) os hC (Nat.le_refl 0)
    omega
  · obtain ⟨b, hb, hm, ex⟩ := nos_mem.mp hx
    subst ex
    obtain ⟨c1, c2, c3, c4, c5⟩ := hc b hb hm
    have hRb := (hR b hb).mp hm
    have vld : ∀ z, chd (o_fw σ0) b z → z = -1 ∨ ∃ c ∈ os, z = nI c ∧ mb c = true := fun z hz => by
      rcases hPV.1 b hb z hz with e | ⟨c, hc, e⟩
      · exact Or.inl e
      · exact Or.inr ⟨c, hc, e, (hR c hc).mpr (Rch_step hRb hb hc (e ▸ hz))⟩
    unfold chd at hy
    rw [lk_at c1, vl_at c1] at hy
    rcases hy with ⟨i, hi, ey⟩ | ⟨j, hj, hR2, ey⟩
    · rw [← ey, c3 i hi]
      exact hpx _ (vld _ (Or.inl ⟨i, hi, rfl⟩))
    · obtain ⟨s1, s2, s3⟩ := c4 j hj
      rw [s1] at hR2
      rw [← ey, s2 hR2]
      exact hpx _ (vld _ (Or.inr ⟨j, hj, hR2, rfl⟩))
  · rw [hr q hq]
    refine hpx _ ?_
    rcases hPV.2 q hq with e | ⟨b, hb, e⟩
    · exact Or.inl e
    · exact Or.inr ⟨b, hb, e, (hR b hb).mpr (Rch_root hq hb e)⟩
  · obtain ⟨b, hb, hm, ex⟩ := nos_mem.mp hx
    subst ex
    exact (hc b hb hm).2.1
