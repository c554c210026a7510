/-! what keeps the two states alike -/
def TL (μ : mS) (M : Nat) : Prop := (∀ i, M ≤ i → m_links μ i = 0 ∧ m_values μ i = 0) ∧ (∀ i, 8 * M ≤ i → m_link μ i = 0 ∧ m_refers μ i = 0 ∧ m_number μ i = 0) ∧ ∀ i, 16 * M ≤ i → m_word μ i = 0
theorem MI_mk {μ : mS} {M : Nat} (h1 : 1 ≤ M) (h2 : M ≤ 4000) (h3 : m_objects μ = nI M) (h4 : m_kind μ 0 = 0) (h5 : MT μ M) (h6 : TL μ M) : MI μ M := ⟨h1, h2, h3, h4, h5, h6.1, h6.2.1, h6.2.2⟩
theorem MI.tl {μ : mS} {M : Nat} (h : MI μ M) : TL μ M := ⟨h.2.2.2.2.2.1, h.2.2.2.2.2.2.1, h.2.2.2.2.2.2.2⟩
theorem MT_ag {μ μ' : mS} {M : Nat} (h : MT μ M) (hA : ∀ o, 1 ≤ o → o < M → m_length μ' o = m_length μ o ∧ m_madeOf μ' o = m_madeOf μ o ∧ m_a μ' o = m_a μ o ∧ m_b μ' o = m_b μ o) : MT μ' M := by
  have hl : ∀ o, 1 ≤ o → o < M → mlen μ' o = mlen μ o := fun o o1 o2 => by unfold mlen; rw [(hA o o1 o2).1]
  intro o o1 o2
  obtain ⟨a1, a2, a3, a4⟩ := hA o o1 o2
  obtain ⟨h1, h2, h3⟩ := h o o1 o2
  rw [a1, a2, a3, a4, hl o o1 o2]
  refine ⟨h1, h2, ?_⟩
  rcases h3 with h3 | ⟨e, t, s, e1, e2, e3, e4, e5⟩ | ⟨e, t1, t2, e1, e2, e3, e4, e5, e6, e7, e8, e9⟩
  · exact Or.inl h3
  · exact Or.inr (Or.inl ⟨e, t, s, e1, e2, e3, e4, by rw [hl t e3 (by omega)]; exact e5⟩)
  · exact Or.inr (Or.inr ⟨e, t1, t2, e1, e2, e3, e4, e5, e6, by rw [hl t1 e3 (by omega), hl t2 e5 (by omega)]; exact e7, by rw [hl t1 e3 (by omega)]; exact e8, by rw [hl t2 e5 (by omega)]; exact e9⟩)
theorem AgB.txt {μ μ' : mS} {M : Nat} (h : AgB μ μ' M) : ∀ o, 1 ≤ o → o < M → m_length μ' o = m_length μ o ∧ m_madeOf μ' o = m_madeOf μ o ∧ m_a μ' o = m_a μ o ∧ m_b μ' o = m_b μ o := fun o o1 o2 => by
  obtain ⟨⟨a1, a2, a3, a4, a5, a6, a7, a8, -⟩, -⟩ := h o o1 o2
  exact ⟨a5, a6, a7, a8⟩
theorem Sim_upd {σ σ' : oS} {μ μ' : mS} {os nl os' nl' : List Nat} {U U' M : Nat} {R : Nat → Nat → Prop} (hS : Sim σ μ os U nl M R) (hO : OI σ' os' U' nl') (hsub : ∀ a ∈ os, a ∈ os') (hf : ∀ a o, R a o → ∀ i, i < sz (o_fw σ) a → i = 0 ∨ 3 ≤ i → o_fw σ' (a + i) = o_fw σ (a + i)) (hA : AgB μ μ' M) (hobj : m_objects μ' = nI M) (hk0 : m_kind μ' 0 = 0) (hTL : TL μ' M) (hroot : ∀ q, q < 24 → PtR R (o_fr σ' q) (m_root μ' q)) (hlim : o_lim σ' = m_limit μ') (hmd : ∃ d, o_md σ' = nI d ∧ d ≤ M) : Sim σ' μ' os' U' nl' M R := by
  obtain ⟨hO0, hMI, h1, h2, h3, h4, h5, h6, h7⟩ := id hS
  refine ⟨hO, MI_mk hMI.1 hMI.2.1 hobj hk0 (MT_ag hMI.mt hA.txt) hTL, fun a o hR => ⟨hsub a (h1 a o hR).1, (h1 a o hR).2⟩, h2, h3, hroot, fun a o hR => ?_, hlim, hmd⟩
  obtain ⟨q1, q2, q3⟩ := h1 a o hR
  exact ObR_fr (Ch_mem os hO0.1.1 q1).2.2 (hf a o hR) (hA o q2 q3).1 (fun k => hA.uoE hMI.2.1 hMI.mt q2 q3 k) (hA.hP hMI.2.1 hMI.mt (fun b p hb => (h1 b p hb).2)) (fun _ _ q => q) (h5 a o hR)
/-- the reference alone changes, in what no object holds -/
theorem Sim_mu {σ : oS} {μ μ' : mS} {os nl : List Nat} {U M : Nat} {R : Nat → Nat → Prop} (hS : Sim σ μ os U nl M R) (hA : AgB μ μ' M) (hobj : m_objects μ' = nI M) (hk0 : m_kind μ' 0 = 0) (hTL : TL μ' M) (hroot : m_root μ' = m_root μ) (hlim : m_limit μ' = m_limit μ) : Sim σ μ' os U nl M R :=
  Sim_upd hS hS.1 (fun _ h => h) (fun _ _ _ _ _ _ => rfl) hA hobj hk0 hTL (fun q hq => by rw [hroot]; exact hS.2.2.2.2.2.1 q hq) (hS.2.2.2.2.2.2.2.1.trans hlim.symm) hS.2.2.2.2.2.2.2.2
theorem Sim_same {σ : oS} {μ μ' : mS} {os nl : List Nat} {U M : Nat} {R : Nat → Nat → Prop} (hS : Sim σ μ os U nl M R) (h : SameM μ' μ) : Sim σ μ' os U nl M R := by
  obtain ⟨t1, t2, t3⟩ := hS.2.1.tl
  exact Sim_mu hS (h.agb M) (h.objects.trans hS.2.1.2.2.1) (by rw [h.kind]; exact hS.2.1.2.2.2.1) ⟨by rw [h.links, h.values]; exact t1, by rw [h.link, h.refers, h.number]; exact t2, by rw [h.word]; exact t3⟩ h.root h.limit
theorem Sim_thrown {σ : oS} {μ : mS} {os nl : List Nat} {U M : Nat} {R : Nat → Nat → Prop} (hS : Sim σ μ os U nl M R) (x : Int32) : Sim σ (m_s_thrown μ x) os U nl M R :=
  Sim_mu hS (AgB.rf μ M) hS.2.1.2.2.1 hS.2.1.2.2.2.1 hS.2.1.tl rfl rfl
theorem OI_root {σ : oS} {os nl : List Nat} {U q : Nat} {x : Int32} (h : OI σ os U nl) (hx : x = -1 ∨ ∃ b ∈ os, x = nI b) : OI (o_s_fr σ (upd (o_fr σ) q x)) os U nl := by
  obtain ⟨⟨hC, hU, hlw, hP1, hP2⟩, hQ, hu, hN, hnk, hnd, hnm, hds, hL, hst⟩ := h
  refine ⟨⟨hC, hU, hlw, hP1, fun r hr => ?_⟩, hQ, hu, hN, hnk, hnd, hnm, hds, hL, hst⟩
  show upd (o_fr σ) q x r = -1 ∨ ∃ b ∈ os, upd (o_fr σ) q x r = nI b
  by_cases e : r = q
  · rw [e, pk_us]; exact hx
  · rw [pk_un e]; exact hP2 r hr
theorem PtR.os {R : Nat → Nat → Prop} {os : List Nat} {x y : Int32} (h : PtR R x y) (h1 : ∀ a o, R a o → a ∈ os) : x = -1 ∨ ∃ b ∈ os, x = nI b := by
  rcases h with ⟨e, -⟩ | ⟨a, o, e, -, hR⟩
  · exact Or.inl e
  · exact Or.inr ⟨a, h1 a o hR, e⟩
/-- a root is put -/
theorem Sim_root {σ : oS} {μ : mS} {os nl : List Nat} {U M q : Nat} {R : Nat → Nat → Prop} {x y : Int32} (hS : Sim σ μ os U nl M R) (hx : PtR R x y) : Sim (o_s_fr σ (upd (o_fr σ) q x)) (m_s_root μ (upd (m_root μ) q y)) os U nl M R := by
  refine Sim_upd hS (OI_root hS.1 (hx.os (fun a o h => (hS.2.2.1 a o h).1))) (fun _ h => h) (fun _ _ _ _ _ _ => rfl) (AgB.rf μ M) hS.2.1.2.2.1 hS.2.1.2.2.2.1 hS.2.1.tl (fun r hr => ?_) hS.2.2.2.2.2.2.2.1 hS.2.2.2.2.2.2.2.2
  show PtR R (upd (o_fr σ) q x r) (upd (m_root μ) q y r)
  by_cases e : r = q
  · rw [e, pk_us, pk_us]; exact hx
  · rw [pk_un e, pk_un e]; exact hS.2.2.2.2.2.1 r hr
def RA (R : Nat → Nat → Prop) (u m a o : Nat) : Prop := R a o ∨ (a = u ∧ o = m)
/-- a new number, and the object that has it -/
theorem Sim_add {σ σ' : oS} {μ μ' : mS} {os nl os' nl' : List Nat} {U U' M u : Nat} {R : Nat → Nat → Prop} (hS : Sim σ μ os U nl M R) (hO : OI σ' os' U' nl') (hsub : ∀ a ∈ os, a ∈ os') (hu : u ∈ os') (hnew : ∀ o, ¬ R u o) (hf : ∀ a o, R a o → ∀ i, i < sz (o_fw σ) a → i = 0 ∨ 3 ≤ i → o_fw σ' (a + i) = o_fw σ (a + i)) (hA : AgB μ μ' M) (hMI' : MI μ' (M + 1)) (hroot : ∀ q, q < 24 → PtR (RA R u M) (o_fr σ' q) (m_root μ' q)) (hob : ObR (o_fw σ') μ' (RA R u M) u M) (hlim : o_lim σ' = m_limit μ') (hmd : ∃ d, o_md σ' = nI d ∧ d ≤ M + 1) : Sim σ' μ' os' U' nl' (M + 1) (RA R u M) := by
  obtain ⟨hO0, hMI, h1, h2, h3, h4, h5, h6, h7⟩ := id hS
  refine ⟨hO, hMI', fun a o hR => ?_, fun a o p q1 q2 => ?_, fun a b o q1 q2 => ?_, hroot, fun a o hR => ?_, hlim, hmd⟩
  · rcases hR with hR | ⟨e1, e2⟩
    · obtain ⟨x1, x2, x3⟩ := h1 a o hR
      exact ⟨hsub a x1, x2, by omega⟩
    · subst e1; subst e2
      exact ⟨hu, hMI.1, by omega⟩
  · rcases q1 with q1 | ⟨e1, e2⟩ <;> rcases q2 with q2 | ⟨e3, e4⟩
    · exact h2 a o p q1 q2
    · subst e3; exact absurd q1 (hnew o)
    · subst e1; exact absurd q2 (hnew p)
    · omega
  · rcases q1 with q1 | ⟨e1, e2⟩ <;> rcases q2 with q2 | ⟨e3, e4⟩
    · exact h3 a b o q1 q2
    · have := (h1 a o q1).2.2; omega
    · have := (h1 b o q2).2.2; omega
    · omega
  · rcases hR with hR | ⟨e1, e2⟩
    · obtain ⟨q1, q2, q3⟩ := h1 a o hR
      exact ObR_fr (Ch_mem os hO0.1.1 q1).2.2 (hf a o hR) (hA o q2 q3).1 (fun k => hA.uoE hMI.2.1 hMI.mt q2 q3 k) (hA.hP hMI.2.1 hMI.mt (fun b p hb => (h1 b p hb).2)) (fun _ _ q => Or.inl q) (h5 a o hR)
    · subst e1; subst e2; exact hob
/-- one object changes -/
theorem Sim_one {σ σ' : oS} {μ μ' : mS} {os nl : List Nat} {U M a0 o0 : Nat} {R : Nat → Nat → Prop} (hS : Sim σ μ os U nl M R) (hO : OI σ' os U nl) (h0 : R a0 o0) (hf : ∀ a o, R a o → a ≠ a0 → ∀ i, i < sz (o_fw σ) a → i = 0 ∨ 3 ≤ i → o_fw σ' (a + i) = o_fw σ (a + i)) (hA : ∀ o, 1 ≤ o → o < M → o ≠ o0 → AgO μ μ' o) (hT : ∀ o, 1 ≤ o → o < M → m_length μ' o = m_length μ o ∧ m_madeOf μ' o = m_madeOf μ o ∧ m_a μ' o = m_a μ o ∧ m_b μ' o = m_b μ o ∧ m_units μ' o = m_units μ o) (hk2 : m_kind μ o0 = 2 → m_kind μ' o0 = 2) (hobj : m_objects μ' = nI M) (hk0 : m_kind μ' 0 = 0) (hTL : TL μ' M) (hroot : ∀ q, q < 24 → PtR R (o_fr σ' q) (m_root μ' q)) (hob : ObR (o_fw σ') μ' R a0 o0) (hlim : o_lim σ' = m_limit μ') (hmd : ∃ d, o_md σ' = nI d ∧ d ≤ M) : Sim σ' μ' os U nl M R := by
  obtain ⟨hO0, hMI, h1, h2, h3, h4, h5, h6, h7⟩ := id hS
  have hu : ∀ o, 1 ≤ o → o < M → ∀ k, uo μ' o k = uo μ o k := fun o o1 o2 k => uo_congr hMI.2.1 hMI.mt hT _ o k o1 o2
  refine ⟨hO, MI_mk hMI.1 hMI.2.1 hobj hk0 (MT_ag hMI.mt (fun o o1 o2 => by obtain ⟨a, b, c, d, e⟩ := hT o o1 o2; exact ⟨a, b, c, d⟩)) hTL, h1, h2, h3, hroot, fun a o hR => ?_, hlim, hmd⟩
  by_cases ea : a = a0
  · subst ea
    rw [h2 a o o0 hR h0]
    exact hob
  · have eo : o ≠ o0 := fun q => ea (h3 a a0 o hR (q ▸ h0))
    obtain ⟨q1, q2, q3⟩ := h1 a o hR
    refine ObR_fr (Ch_mem os hO0.1.1 q1).2.2 (hf a o hR ea) (hA o q2 q3 eo) (hu o q2 q3) (fun b p hb => ?_) (fun _ _ q => q) (h5 a o hR)
    obtain ⟨x1, x2, x3⟩ := h1 b p hb
    refine ⟨fun hk => ?_, (hT p x2 x3).1, hu p x2 x3⟩
    by_cases ep : p = o0
    · subst ep; exact hk2 hk
    · rw [(hA p x2 x3 ep).1]; exact hk
/-- only what a root leads to need be alike -/
theorem Sim_rst {σ : oS} {μ : mS} {os nl : List Nat} {U M : Nat} {R : Nat → Nat → Prop} (hS : Sim σ μ os U nl M R) : Sim σ μ os U nl M (fun a o => R a o ∧ Rch (o_fw σ) os (o_fr σ) a) := by
  obtain ⟨hO0, hMI, h1, h2, h3, h4, h5, h6, h7⟩ := id hS
  refine ⟨hO0, hMI, fun a o h => h1 a o h.1, fun a o p q1 q2 => h2 a o p q1.1 q2.1, fun a b o q1 q2 => h3 a b o q1.1 q2.1, fun q hq => ?_, fun a o hR => ?_, h6, h7⟩
  · rcases h4 q hq with e | ⟨a, o, e1, e2, hR⟩
    · exact Or.inl e
    · exact Or.inr ⟨a, o, e1, e2, hR, Rch_root hq (h1 a o hR).1 e1⟩
  · obtain ⟨hR, hr⟩ := hR
    have ha := (h1 a o hR).1
    have pt : ∀ x y, chd (o_fw σ) a x → PtR R x y → PtR (fun a o => R a o ∧ Rch (o_fw σ) os (o_fr σ) a) x y := fun x y hx h => by
      rcases h with e | ⟨b, p, e1, e2, hb⟩
      · exact Or.inl e
      · exact Or.inr ⟨b, p, e1, e2, hb, Rch_step hr ha (h1 b p hb).1 (e1 ▸ hx)⟩
    obtain ⟨hk, hob⟩ := h5 a o hR
    refine ⟨hk, ?_⟩
    rcases hob with hb | ht
    · obtain ⟨b1, b2, b3, b4, b5, b6, b7, b8, b9, b10⟩ := hb
      refine Or.inl ⟨b1, b2, b3, b4, b5, b6, b7, fun i hi => pt _ _ (Or.inl ⟨i, hi, rfl⟩) (b8 i hi), fun j hj => ?_, b10⟩
      rcases b9 j hj with ⟨q1, b, p, q2, q3, q4⟩ | q
      · exact Or.inl ⟨q1, b, p, q2, q3, q4, Rch_step hr ha (h1 b p q4).1 (Or.inr ⟨j, hj, q1, q2⟩)⟩
      · exact Or.inr q
    · obtain ⟨t1, t2, t3, n, t4, t5, t6, ht⟩ := ht
      refine Or.inr ⟨t1, t2, t3, n, t4, t5, t6, ?_⟩
      rcases ht with h | ⟨q1, q2, q3, q4, q5, ⟨a1, o1, r1, r2, r3⟩, a2, o2, s1, s2, s3⟩ | ⟨q1, q2, q3, q4, ⟨a1, o1, r1, r2, r3, r4⟩, s1⟩
      · exact Or.inl h
      · exact Or.inr (Or.inl ⟨q1, q2, q3, q4, q5, ⟨a1, o1, r1, r2, r3, Rch_step hr ha (h1 a1 o1 r3).1 (Or.inl ⟨0, by omega, r1⟩)⟩, a2, o2, s1, s2, s3, Rch_step hr ha (h1 a2 o2 s3).1 (Or.inl ⟨1, by omega, s1⟩)⟩)
      · exact Or.inr (Or.inr ⟨q1, q2, q3, q4, ⟨a1, o1, r1, r2, ⟨r3, Rch_step hr ha (h1 a1 o1 r3).1 (Or.inl ⟨0, by omega, r1⟩)⟩, r4⟩, s1⟩)
