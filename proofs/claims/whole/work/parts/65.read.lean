/-! reading texts -/
def Rd (σ : oS) (μ : mS) (R : Nat → Nat → Prop) (U M : Nat) : Prop := (∀ a o, R a o → okO (o_fw σ) a ∧ a + sz (o_fw σ) a ≤ U ∧ 1 ≤ o ∧ o < M ∧ ObR (o_fw σ) μ R a o) ∧ U ≤ o_lw σ ∧ o_lw σ ≤ 1048576 ∧ (∀ q, q < 24 → PtR R (o_fr σ q) (m_root μ q)) ∧ MT μ M ∧ M ≤ 4000
theorem Sim.rd {σ : oS} {μ : mS} {os nl : List Nat} {U M : Nat} {R : Nat → Nat → Prop} (hS : Sim σ μ os U nl M R) : Rd σ μ R U M := by
  refine ⟨fun a o hR => ?_, hS.1.1.2.1, hS.1.1.2.2.1, hS.2.2.2.2.2.1, hS.mt, hS.2.1.2.1⟩
  obtain ⟨q1, q2, q3, q4, q5, q6, q7, q8, q9⟩ := Sim_ob hS hR
  exact ⟨q5, q6, q2, q3, q9⟩
theorem Rd.keep {σ σ' : oS} {μ : mS} {U M : Nat} {R : Nat → Nat → Prop} (h : Rd σ μ R U M) (hf : ∀ x, x < U → o_fw σ' x = o_fw σ x) (hr : o_fr σ' = o_fr σ) (h1 : o_lw σ ≤ o_lw σ') (h2 : o_lw σ' ≤ 1048576) : Rd σ' μ R U M := by
  obtain ⟨r1, r2, r3, r4, r5, r6⟩ := h
  refine ⟨fun a o hR => ?_, by omega, h2, by rw [hr]; exact r4, r5, r6⟩
  obtain ⟨q1, q2, q3, q4, q5⟩ := r1 a o hR
  have h3 := okO_3 q1
  have e0 : o_fw σ' a = o_fw σ a := hf a (by omega)
  refine ⟨okO_congr e0 q1, by rw [sz_congr e0]; exact q2, q3, q4, ?_⟩
  exact ObR_fr q1 (fun i hi _ => hf _ (by omega)) ⟨rfl, rfl, rfl, rfl, rfl, rfl, rfl, rfl, rfl, fun _ _ => ⟨rfl, rfl, rfl⟩, fun _ _ => rfl⟩ (fun _ => rfl) (fun b p hb => ⟨fun q => q, rfl, fun _ => rfl⟩) (fun _ _ q => q) q5
theorem Ext.rd {σ1 σ2 : oS} {μ : mS} {os nl : List Nat} {U M k l v s : Nat} {R : Nat → Nat → Prop} (hX : Ext σ1 σ2 U k l v s) (hS : Sim σ1 μ os U nl M R) : Rd σ2 μ R U M := by
  obtain ⟨E, u1, u2, u3, u4, u5, n1, n2, n3⟩ := hX
  obtain ⟨L, l1, l2, l3, l4, l5⟩ := hS.1.2.2.2.2.2.2.2.2.1
  have := u5 L l1 l3
  exact hS.rd.keep n1 E.2.1 u3 (by omega)
theorem Rd.thrown {σ : oS} {μ : mS} {R : Nat → Nat → Prop} {U M q : Nat} (h : Rd σ μ R U M) (hq : q < 24) : (o_fr σ q = -1 ∧ m_root μ q = nI 0) ∨ ∃ a o, o_fr σ q = nI a ∧ m_root μ q = nI o ∧ R a o := by
  rcases h.2.2.2.1 q hq with ⟨e1, e2⟩ | ⟨a, o, e1, e2, h⟩
  · exact Or.inl ⟨e1, e2⟩
  · exact Or.inr ⟨a, o, e1, e2, h⟩
section RD
variable {F : Nat} {σ : oS} {μ : mS} {U M : Nat} {R : Nat → Nat → Prop}
theorem ObR_T {f : Nat → Int32} {a o : Nat} (h : ObR f μ R a o) (hk : kd f a ≠ 1) : ObT f μ R a o := by
  obtain ⟨-, h | h⟩ := h
  · exact absurd h.1 hk
  · exact h
theorem ObT_kd {f : Nat → Int32} {a o : Nat} (h : ObT f μ R a o) : 2 ≤ kd f a ∧ kd f a ≤ 5 := by
  obtain ⟨-, -, -, n, -, -, -, h⟩ := h
  rcases h with ⟨e | e, -⟩ | ⟨e, -⟩ | ⟨e, -⟩ <;> omega
theorem ObT_len {f : Nat → Int32} {a o : Nat} (h : ObT f μ R a o) : m_length μ o = nI (mlen μ o) ∧ mlen μ o ≤ 4000 ∧ f (a + 3 + lk f a) = nI (mlen μ o) ∧ 3 + lk f a < sz f a := by
  obtain ⟨h1, h2, h3, n, h4, h5, h6, h⟩ := h
  have e : mlen μ o = n := by unfold mlen; rw [h5, nI_clamp (by omega)]
  rw [e]
  refine ⟨h5, h4, h6, ?_⟩
  rcases h with ⟨_, e1, e2, _⟩ | ⟨_, e1, e2, _⟩ | ⟨_, e1, e2, _⟩ <;> omega
def Tx (σ : oS) (μ : mS) (R : Nat → Nat → Prop) (q a o : Nat) : Prop := q < 24 ∧ o_fr σ q = nI a ∧ m_root μ q = nI o ∧ R a o ∧ ObT (o_fw σ) μ R a o
theorem P_lengthAt {a o : Nat} (h : Rd σ μ R U M) (hR : R a o) (hT : ObT (o_fw σ) μ R a o) : fX0_lengthAt F σ (nI a) = some (nI (mlen μ o), σ) := by
  obtain ⟨q1, q2, q3, q4, q5⟩ := h.1 a o hR
  obtain ⟨l1, l2, l3, l4⟩ := ObT_len hT
  have r2 := h.2.1
  have r3 := h.2.2.1
  have h3 := okO_3 q1
  unfold fX0_lengthAt
  rw [P_linksAt (by omega) r3 q1.1, bnd_s, nI_p3, nI_add, ck_t (vp_in_nI (by omega) (by omega)), nI_clamp (by omega), nmd_v, l3]
theorem P_lengthIn {q a o : Nat} (h : Rd σ μ R U M) (hT : Tx σ μ R q a o) : fX0_lengthIn F σ (nI q) = some (nI (mlen μ o), σ) := by
  obtain ⟨hq, e1, e2, hR, ht⟩ := hT
  unfold fX0_lengthIn
  rw [ck_t (in24 hq), cl24 hq, nmd_v, e1, P_lengthAt h hR ht, bnd_s]
/-- a flat text with a text's units -/
def Fl (f : Nat → Int32) (μ : mS) (U o b : Nat) : Prop := okO f b ∧ b + sz f b ≤ U ∧ sz f b = 4 + (mlen μ o + 1) / 2 ∧ f (b + 3) = nI (mlen μ o) ∧ lk f b = 0 ∧ (∀ k, k < mlen μ o → un f b k = uo μ o k) ∧ (mlen μ o % 2 = 1 → un f b (mlen μ o) = 0)
theorem P_flatOf {a o : Nat} (h : Rd σ μ R U M) (hR : R a o) (hT : ObT (o_fw σ) μ R a o) (hk : kd (o_fw σ) a ≠ 3) : ∃ b, fX0_flatOf F σ (nI a) = some (nI b, σ) ∧ Fl (o_fw σ) μ U o b := by
  obtain ⟨q1, q2, q3, q4, q5⟩ := h.1 a o hR
  have r2 := h.2.1
  have r3 := h.2.2.1
  have h3 := okO_3 q1
  obtain ⟨t1, t2, t3, n, t4, t5, t6, ht⟩ := hT
  have e : mlen μ o = n := by unfold mlen; rw [t5, nI_clamp (by omega)]
  unfold fX0_flatOf Fl
  rw [P_kindAt (by omega) r3 q1.1, bnd_s, e]
  rcases ht with ⟨x1, x2, x3, x4, x5⟩ | ⟨x1, -⟩ | ⟨x1, x2, x3, x4, ⟨a1, o1, y1, y2, y3, y4, y5, y6⟩, y7⟩
  · refine ⟨a, ?_, q1, q2, x3, ?_, x2, x4, x5⟩
    · rw [cIf_f]
      rcases x1 with e | e <;> (rw [e]; decide)
    · rw [x2] at t6; exact t6
  · exact absurd x1 hk
  · obtain ⟨p1, p2, p3, p4, pk, pob⟩ := h.1 a1 o1 y3
    have hk1 : kd (o_fw σ) a1 = 2 := nI_inj (by have := kd16 (o_fw σ) a1; omega) (by omega) (pk.symm.trans y4)
    refine ⟨a1, ?_, p1, p2, ?_⟩
    · rw [x1, cIf_t (show nI 4 = 4 from rfl), nI_p3, ck_t (vp_in_nI (by omega) (by omega)), nI_clamp (by omega), nmd_v, y1]
    · rcases pob with pb | ⟨s1, s2, s3, m, s4, s5, s6, hs⟩
      · have := pb.1; omega
      · have em : m = n := nI_inj (by omega) (by omega) (s5.symm.trans y5)
        subst em
        rcases hs with ⟨z1, z2, z3, z4, z5⟩ | ⟨z1, -⟩ | ⟨z1, -⟩
        · exact ⟨z3, by rw [z2] at s6; exact s6, z2, fun k hk => (z4 k hk).trans (y6 k hk), z5⟩
        · omega
        · omega
theorem Fl.keep {f f' : Nat → Int32} {U o b : Nat} (h : Fl f μ U o b) (hf : ∀ x, x < U → f' x = f x) : Fl f' μ U o b := by
  obtain ⟨h1, h2, h3, h4, h5, h6, h7⟩ := h
  have h8 := okO_3 h1
  have e0 : f' b = f b := hf b (by omega)
  refine ⟨okO_congr e0 h1, by rw [sz_congr e0]; exact h2, by rw [sz_congr e0]; exact h3, (hf _ (by omega)).trans h4, by rw [lk_congr e0]; exact h5, fun k hk => ?_, fun hn => ?_⟩
  · unfold un; rw [hf _ (by omega)]; exact h6 k hk
  · unfold un; rw [hf _ (by omega)]; exact h7 hn
end RD
section CL
variable {F : Nat} {σ : oS} {μ : mS} {os nl : List Nat} {U M : Nat} {R : Nat → Nat → Prop}
theorem P_txt (hS : Sim σ μ os U nl M R) (p : Int32) : (fX0_needText F σ p = some (.inl 1, σ, 1, 6) ∧ fX1_isText F μ p = some (0, μ)) ∨ ∃ q a o, p = nI q ∧ Tx σ μ R q a o ∧ fX0_needText F σ p = some (.inr (), σ, 0, 0) ∧ fX1_isText F μ p = some (1, μ) := by
  unfold fX0_needText fX1_isText
  rcases root_cs p with ⟨q, hq, rfl⟩ | hn
  · rw [P_needRoot_t hq, P_isRoot_t hq, bndN_r, bnp_s, cIf_f one_ne0]
    simp only [nmd_v, ck_t (in24 hq), cl24 hq]
    rcases Sim_at hS hq with ⟨e1, e2⟩ | ⟨a, o, e1, e2, hR⟩
    · refine Or.inl ?_
      rw [e1, P_kindAt0, bnd_s, cIf_t rfl, e2, ck_t (vp_in_nI (by omega) (by omega)), nI_clamp (by omega), hS.2.1.2.2.2.1, cIf_t (by decide)]
      exact ⟨rfl, rfl⟩
    · obtain ⟨q1, q2, q3, q4, q5, q6, q7, q8, q9⟩ := Sim_ob hS hR
      obtain ⟨k1, k2⟩ := Sim_kd (F := F) hS hR
      have h16 := kd16 (o_fw σ) a
      rw [e1, k1, bnd_s, e2, ck_t (vp_in_nI (by omega) (by omega)), nI_clamp (by omega), k2]
      by_cases hk : kd (o_fw σ) a = 1
      · refine Or.inl ?_
        rw [hk, cIf_f (by decide), cIf_t (show nI 1 = 1 from rfl), cIf_t (by decide)]
        exact ⟨rfl, rfl⟩
      · have hT := ObR_T q9 hk
        have hkd := ObT_kd hT
        refine Or.inr ⟨q, a, o, rfl, ⟨hq, e1, e2, hR, hT⟩, ?_⟩
        rw [cIf_f (nI_ne0 (by omega) (by omega)), cIf_f (fun h => hk (nI_inj (by omega) (by omega) (h.trans nI1l))), cIf_f (show ¬ nI (kd (o_fw σ) a) ≤ 1 from nI_ge (a := 1) (b := kd (o_fw σ) a) (by omega) (by omega))]
        exact ⟨rfl, rfl⟩
  · refine Or.inl ?_
    rw [P_needRoot_f hn, P_isRoot_f hn, bndN_l, bnp_s, cIf_t rfl]
    exact ⟨rfl, rfl⟩
theorem C_length {F : Nat} {σ : oS} {μ : mS} {M : Nat} (p1 : Int32) (h : Sm σ μ M) : ∃ r σ' C N b μ', fX0_length F σ p1 = some (r, σ', C, N) ∧ fX1_length F μ p1 = some (b, μ') ∧ m_thrown μ' = xC r ∧ (∀ k, r = .inl k → k = 1) ∧ (∀ a, r = .inr a → a = b) ∧ After σ M σ' μ' C N := by
  obtain ⟨os, U, nl, R, hS⟩ := h
  unfold fX0_length fX1_length
  rcases P_txt (F := F) hS p1 with ⟨h1, h2⟩ | ⟨q, a, o, rfl, hT, h1, h2⟩
  · rw [h1, h2, bndX_l, bnd_s, P_says0, bnd_s, cIf_t rfl]
    exact ⟨_, _, _, _, _, _, rfl, rfl, rfl, (fun k e => by cases e; rfl), (fun a e => by cases e), After.keep (Sim_thrown hS 1) (by omega) (by omega)⟩
  · obtain ⟨hq, e1, e2, hR, ht⟩ := id hT
    obtain ⟨q1, q2, q3, q4, -⟩ := Sim_ob hS hR
    rw [h1, h2, bndX_r, bnd_s, P_says1, bnd_s, cIf_f one_ne0, P_lengthIn hS.rd hT, bnd_s]
    simp only [nmd_v, ck_t (in24 hq), cl24 hq, mgs_root_thrown]
    rw [e2, ck_t (vp_in_nI (by omega) (by omega)), nI_clamp (by omega)]
    exact ⟨_, _, _, _, _, _, rfl, rfl, rfl, (fun k e => by cases e), (fun a e => by cases e; exact (ObT_len ht).1.symm), After.keep (Sim_thrown hS 0) (by omega) (by omega)⟩
end CL
