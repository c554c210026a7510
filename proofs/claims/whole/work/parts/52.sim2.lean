/-! the two states are alike -/
/-- a name's shape, wherever it lies -/
def NmOk (f : Nat → Int32) (a : Nat) : Prop := lk f a = 0 ∧ vl f a = 0 ∧ ∃ n, n ≤ 4000 ∧ f (a + 3) = nI n ∧ sz f a = 4 + (n + 1) / 2 ∧ (n % 2 = 1 → un f a n = 0)
/-- two flat texts have the same units -/
def sameU (f : Nat → Int32) (a b : Nat) : Prop := f (a + 3) = f (b + 3) ∧ ∀ k, k < (f (a + 3)).toNatClampNeg → un f a k = un f b k
def OI (σ : oS) (os : List Nat) (U : Nat) (nl : List Nat) : Prop :=
  GI σ os U ∧ Qt σ os ∧ o_us σ = nI U ∧ NLs σ nl ∧ (∀ a, a ∈ nl ↔ a ∈ os ∧ kd (o_fw σ) a = 5) ∧ nl.Nodup ∧ (∀ a ∈ nl, NmOk (o_fw σ) a) ∧ (∀ a ∈ nl, ∀ b ∈ nl, sameU (o_fw σ) a b → a = b) ∧
  (∃ L, o_lim σ = nI L ∧ 16 ≤ L ∧ L ≤ 1048576 ∧ 16 ≤ o_lw σ ∧ o_lw σ ≤ L) ∧ ∃ s, o_st σ = nI s ∧ s < 2 ^ 31 ∧ 1 ≤ o_ln σ
def mlen (μ : mS) (o : Nat) : Nat := (m_length μ o).toNatClampNeg
/-- what holds of the reference alone; M is its next number -/
def MI (μ : mS) (M : Nat) : Prop :=
  1 ≤ M ∧ M ≤ 4000 ∧ m_objects μ = nI M ∧ m_kind μ 0 = 0 ∧
  (∀ o, 1 ≤ o → o < M → m_length μ o = nI (mlen μ o) ∧ mlen μ o ≤ 4000 ∧
    ((m_madeOf μ o = 0 ∧ mlen μ o ≤ 4) ∨ (m_madeOf μ o = 1 ∧ ∃ t s, m_a μ o = nI t ∧ m_b μ o = nI s ∧ 1 ≤ t ∧ t < o ∧ s + mlen μ o ≤ mlen μ t) ∨
     (m_madeOf μ o = 2 ∧ ∃ t1 t2, m_a μ o = nI t1 ∧ m_b μ o = nI t2 ∧ 1 ≤ t1 ∧ t1 < o ∧ 1 ≤ t2 ∧ t2 < o ∧ mlen μ o = mlen μ t1 + mlen μ t2 ∧ 1 ≤ mlen μ t1 ∧ 1 ≤ mlen μ t2))) ∧
  (∀ i, M ≤ i → m_links μ i = 0 ∧ m_values μ i = 0) ∧ (∀ i, 8 * M ≤ i → m_link μ i = 0 ∧ m_refers μ i = 0 ∧ m_number μ i = 0) ∧ ∀ i, 16 * M ≤ i → m_word μ i = 0
def Sim (σ : oS) (μ : mS) (os : List Nat) (U : Nat) (nl : List Nat) (M : Nat) (R : Nat → Nat → Prop) : Prop :=
  OI σ os U nl ∧ MI μ M ∧ (∀ a o, R a o → a ∈ os ∧ 1 ≤ o ∧ o < M) ∧ (∀ a o p, R a o → R a p → o = p) ∧ (∀ a b o, R a o → R b o → a = b) ∧
  (∀ q, q < 24 → PtR R (o_fr σ q) (m_root μ q)) ∧ (∀ a o, R a o → ObR (o_fw σ) μ R a o) ∧ o_lim σ = m_limit μ ∧ ∃ d, o_md σ = nI d ∧ d ≤ M
theorem un_move {f f' : Nat → Int32} {ψ : Nat → Nat} {a k : Nat} (hc : cnt f f' ψ a) (h0 : lk f a = 0) (h1 : vl f a = 0) (hk : 4 + k / 2 < sz f a) : un f' (ψ a) k = un f a k := by
  unfold un
  have := hc.2.2.2.2 (4 + k / 2) (by omega) hk
  rw [show ψ a + 4 + k / 2 = ψ a + (4 + k / 2) by omega, show a + 4 + k / 2 = a + (4 + k / 2) by omega, this]
theorem len_move {f f' : Nat → Int32} {ψ : Nat → Nat} {a : Nat} (hc : cnt f f' ψ a) (h0 : lk f a = 0) (h1 : vl f a = 0) (hk : 3 < sz f a) : f' (ψ a + 3) = f (a + 3) := hc.2.2.2.2 3 (by omega) hk
theorem NmOk_move {f f' : Nat → Int32} {ψ : Nat → Nat} {a : Nat} (hc : cnt f f' ψ a) (h : NmOk f a) : NmOk f' (ψ a) := by
  obtain ⟨h0, h1, n, h2, h3, h4, h5⟩ := h
  refine ⟨by rw [lk_at hc.1]; exact h0, by rw [vl_at hc.1]; exact h1, n, h2, by rw [len_move hc h0 h1 (by omega)]; exact h3, by rw [sz_at hc.1]; exact h4, fun hn => ?_⟩
  rw [un_move hc h0 h1 (by omega)]
  exact h5 hn
theorem sameU_back {f f' : Nat → Int32} {ψ : Nat → Nat} {a b : Nat} (ha : cnt f f' ψ a) (hb : cnt f f' ψ b) (na : NmOk f a) (nb : NmOk f b) (h : sameU f' (ψ a) (ψ b)) : sameU f a b := by
  obtain ⟨h0, h1, n, h2, h3, h4, h5⟩ := na
  obtain ⟨g0, g1, m, g2, g3, g4, g5⟩ := nb
  obtain ⟨e1, e2⟩ := h
  rw [len_move ha h0 h1 (by omega), len_move hb g0 g1 (by omega)] at e1
  rw [len_move ha h0 h1 (by omega)] at e2
  refine ⟨e1, fun k hk => ?_⟩
  have hk2 := hk
  rw [h3, nI_clamp (by omega)] at hk2
  have emn : n = m := by rw [h3, g3] at e1; exact nI_inj (by omega) (by omega) e1
  have := e2 k hk
  rw [un_move ha h0 h1 (by omega), un_move hb g0 g1 (by omega)] at this
  exact this
def RG (R : Nat → Nat → Prop) (os : List Nat) (mb : Nat → Bool) (ψ : Nat → Nat) (c p : Nat) : Prop := ∃ b ∈ os, mb b = true ∧ c = ψ b ∧ R b p
/-- a collection keeps the two states alike -/
theorem Sim_GC {σ σ' : oS} {μ : mS} {os nl : List Nat} {U M : Nat} {R : Nat → Nat → Prop} {mb : Nat → Bool} (hS : Sim σ μ os U nl M R) (hGC : GC σ os nl mb σ') :
    Sim σ' μ (nos (o_fw σ) mb os 0) (tot (sz (o_fw σ)) mb os 0) ((nl.filter mb).map (psi (sz (o_fw σ)) mb os 0)) M (RG R os mb (psi (sz (o_fw σ)) mb os 0)) := by
  obtain ⟨⟨hG, hQ, hu, hN, hnk, hnd, hnm, hds, ⟨L, l1, l2, l3, l4, l5⟩, s, d1, d2⟩, hMI, hR1, hR2, hR3, hroot, hob, hlim, d, d3, d4⟩ := hS
  obtain ⟨hG', hQ'⟩ := GC_GI hG hGC
  obtain ⟨hC, hU, hl, hPV⟩ := id hG
  obtain ⟨gR, ⟨e1, e2, e3, e4, e5, e6, e7⟩, gu, gr, gc, gn⟩ := hGC
  have hbU : ∀ b ∈ os, b + 3 ≤ U := fun b hb => by have h5 := Ch_mem os hC hb; have := okO_3 h5.2.2; omega
  have hRb : ∀ b p, R b p → b < 2 ^ 31 := fun b p h => by have := hbU b (hR1 b p h).1; omega
  generalize hψ : psi (sz (o_fw σ)) mb os 0 = ψ at *
  have hinj : ∀ b ∈ os, ∀ c ∈ os, mb b = true → mb c = true → ψ b = ψ c → b = c := fun b hb c hc hmb hmc he => by
    rw [← hψ] at he
    exact psi_inj hC hb hc hmb hmc he
  have hnos : ∀ x, x ∈ nos (o_fw σ) mb os 0 ↔ ∃ b ∈ os, mb b = true ∧ x = ψ b := fun x => by rw [nos_mem, hψ]
  have hnl' : ∀ x, x ∈ (nl.filter mb).map ψ ↔ ∃ b ∈ nl, mb b = true ∧ x = ψ b := fun x => by
    constructor
    · intro h
      obtain ⟨b, hb, e⟩ := List.mem_map.mp h
      obtain ⟨h1, h2⟩ := List.mem_filter.mp hb
      exact ⟨b, h1, h2, e.symm⟩
    · rintro ⟨b, h1, h2, e⟩
      exact List.mem_map.mpr ⟨b, List.mem_filter.mpr ⟨h1, h2⟩, e.symm⟩
  refine ⟨⟨hG', hQ', gu, gn, fun a => ?_, ?_, fun a ha => ?_, fun a ha b hb hab => ?_, ⟨L, e1.trans l1, l2, l3, by omega, by omega⟩, s, e6.trans d1, d2.1, by rw [e3]; exact d2.2⟩, hMI, fun c p h => ?_, fun c p q h1 h2 => ?_, fun c d p h1 h2 => ?_, fun q hq => ?_, fun c p h => ?_, e1.trans hlim, d, e7.trans d3, d4⟩
  · rw [hnl', hnos]
    constructor
    · rintro ⟨b, h1, h2, e⟩
      obtain ⟨h3, h4⟩ := (hnk b).mp h1
      exact ⟨⟨b, h3, h2, e⟩, by rw [e, kd_at (gc b h3 h2).1]; exact h4⟩
    · rintro ⟨⟨b, h1, h2, e⟩, h3⟩
      rw [e, kd_at (gc b h1 h2).1] at h3
      exact ⟨b, (hnk b).mpr ⟨h1, h3⟩, h2, e⟩
  · have h5 : ∀ l : List Nat, l.Nodup → (∀ x ∈ l, x ∈ os ∧ mb x = true) → (l.map ψ).Nodup := by
      intro l
      induction l with
      | nil => intro _ _; exact List.nodup_nil
      | cons x l ih =>
        intro h1 h2
        obtain ⟨n1, n2⟩ := List.nodup_cons.mp h1
        rw [List.map_cons]
        refine List.nodup_cons.mpr ⟨fun q => ?_, ih n2 (fun y hy => h2 y (List.mem_cons_of_mem _ hy))⟩
        obtain ⟨y, hy, e⟩ := List.mem_map.mp q
        have hx2 := h2 x List.mem_cons_self
        have hy2 := h2 y (List.mem_cons_of_mem _ hy)
        have := hinj y hy2.1 x hx2.1 hy2.2 hx2.2 e
        exact n1 (this ▸ hy)
    refine h5 _ (hnd.filter _) (fun x hx => ?_)
    obtain ⟨h1, h2⟩ := List.mem_filter.mp hx
    exact ⟨((hnk x).mp h1).1, h2⟩
  · obtain ⟨b, h1, h2, e⟩ := (hnl' a).mp ha
    rw [e]
    exact NmOk_move (gc b ((hnk b).mp h1).1 h2) (hnm b h1)
  · obtain ⟨x, h1, h2, ex⟩ := (hnl' a).mp ha
    obtain ⟨y, g1, g2, ey⟩ := (hnl' b).mp hb
    rw [ex, ey] at hab ⊢
    rw [hds x h1 y g1 (sameU_back (gc x ((hnk x).mp h1).1 h2) (gc y ((hnk y).mp g1).1 g2) (hnm x h1) (hnm y g1) hab)]
  · obtain ⟨b, hb, hm, e, h⟩ := h
    obtain ⟨h1, h2, h3⟩ := hR1 b p h
    exact ⟨(hnos c).mpr ⟨b, hb, hm, e⟩, h2, h3⟩
  · obtain ⟨b, hb, hm, e, h⟩ := h1
    obtain ⟨b', hb', hm', e', h'⟩ := h2
    have : b = b' := hinj b hb b' hb' hm hm' (e.symm.trans e')
    subst this
    exact hR2 b p q h h'
  · obtain ⟨b, hb, hm, e, h⟩ := h1
    obtain ⟨b', hb', hm', e', h'⟩ := h2
    rw [e, e', hR3 b b' p h h']
  · rw [gr q hq]
    rcases hroot q hq with ⟨h1, h2⟩ | ⟨a, o, h1, h2, h3⟩
    · rw [h1, px_0]; exact Or.inl ⟨rfl, h2⟩
    · have ha := (hR1 a o h3).1
      rw [h1, px_n (hRb a o h3)]
      exact Or.inr ⟨ψ a, o, rfl, h2, a, ha, (gR a ha).mpr (Rch_root hq ha h1), rfl, h3⟩
  · obtain ⟨b, hb, hm, e, h⟩ := h
    subst e
    have hRch := (gR b hb).mp hm
    refine ObR_move (Ch_mem os hC hb).2.2 (gc b hb hm) hRb (fun c q hch hcq => ?_) (hob b p h)
    have hc := (hR1 c q hcq).1
    exact ⟨c, hc, (gR c hc).mpr (Rch_step hRch hb hc hch), rfl, hcq⟩
