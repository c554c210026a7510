/-! new texts -/
theorem P_makeFlat {F : Nat} {σ : oS} {μ : mS} {os nl : List Nat} {U M : Nat} {R : Nat → Nat → Prop} (hF : 1048600 < F) (hS : Sim σ μ os U nl M R) {k n s L : Nat} (hk : k < 16) (hn : n ≤ 4000) (hs : s = 4 + (n + 1) / 2) (hL : o_lim σ = nI L) (hLb : L ≤ 1048576) :
    ∃ σ1 os1 U1 nl1 R1, Sim σ1 μ os1 U1 nl1 M R1 ∧ o_lim σ1 = nI L ∧ pot σ1 = pot σ ∧
      ((L < Tk σ os + s ∧ fX0_makeFlat F σ (nI k) (nI n) = some (.inl 2, σ1, 1, 6)) ∨
       (Tk σ os + s ≤ L ∧ ∃ σ2 C N, fX0_makeFlat F σ (nI k) (nI n) = some (.inr (nI U1), σ2, C, N) ∧ Ext σ1 σ2 U1 k 0 0 s ∧ o_fw σ2 (U1 + 3) = nI n ∧ (∀ i, 4 ≤ i → i < s → o_fw σ2 (U1 + i) = 0) ∧ C ≤ 1 ∧ N + pot σ1 ≤ pot σ2)) := by
  obtain ⟨σ1, os1, U1, nl1, R1, hS1, hl1, hp1, hmk⟩ := P_make hF hS (k := k) (l := 0) (v := 0) (p := 1 + (n + 1) / 2) (s := s) hk (by omega) (by omega) (by omega) (by omega) hL hLb
  refine ⟨σ1, os1, U1, nl1, R1, hS1, hl1, hp1, ?_⟩
  have ep : (1 : Int32) + (nI n + 1) / 2 = nI (1 + (n + 1) / 2) := by rw [nI_1, half2 _ (by omega), nI1l, nI_add]
  unfold fX0_makeFlat
  rw [ep]
  rcases hmk with ⟨hf, c1⟩ | ⟨hf, σ2, C, N, c1, c2, c3, c4⟩
  · have c1' : fX0_make F σ (nI k) 0 0 (nI (1 + (n + 1) / 2)) = some (.inl 2, σ1, 1, 6) := c1
    rw [c1', bndX_l]
    exact Or.inl ⟨hf, rfl⟩
  · have c1' : fX0_make F σ (nI k) 0 0 (nI (1 + (n + 1) / 2)) = some (.inr (nI U1), σ2, C, N) := c1
    obtain ⟨E, u1, u2, u3, u4, u5, n1, n2, n3, n4, n5⟩ := id c2
    have hlw := u5 L hl1 hLb
    obtain ⟨r1, r2, r3, r4, r5⟩ := hdr_rd (f := o_fw σ2) (a := U1) (k := k) (l := 0) (v := 0) (s := s) hk (by omega) (by omega) (by omega) n2
    rw [c1']
    refine Or.inr ⟨hf, o_s_fw σ2 (upd (o_fw σ2) (U1 + 3) (nI n)), C + 0, N + 0, bndX_k ?_, c2.ext.put (by omega), pk_us, fun i h1 h2 => (pk_un (by omega)).trans (n5 i (by omega) h2), by omega, ?_⟩
    · unfold fX0_putLength
      rw [P_linksAt (by omega) (by omega) r5, bnd_s, r2, nI_p3, nI_add, Nat.add_zero, ck_t (vp_in_nI (by omega) (by omega)), nI_clamp (by omega), nmd_v, bnp_s]
    · exact c4
theorem Ext.fill {σ1 σ2 : oS} {U k l v s : Nat} {g : Nat → Int32} (h : Ext σ1 σ2 U k l v s) (hg : ∀ x, x < U + 2 → g x = o_fw σ2 x) : Ext σ1 (o_s_fw σ2 g) U k l v s := by
  obtain ⟨h1, h2, h3, h4, h5, h6, n1, n2, n3⟩ := h
  exact ⟨h1, h2, h3, h4, h5, h6, fun y hy => (hg y (by omega)).trans (n1 y hy), (hg U (by omega)).trans n2, (hg (U + 1) (by omega)).trans n3⟩
theorem un_fresh {f : Nat → Int32} {U s : Nat} (h : ∀ i, 4 ≤ i → i < s → f (U + i) = 0) {j : Nat} (hj : 4 + j / 2 < s) : un f U j = 0 := by
  unfold un
  rw [show U + 4 + j / 2 = U + (4 + j / 2) by omega, h _ (by omega) hj]
  have : (0 : Int32).toBitVec.toNat = 0 := by decide
  rw [this, Nat.zero_div]
/-- the reference's state with a new text -/
def TxM (μ μ3 : mS) (M k n h : Nat) : Prop := m_limit μ3 = m_limit μ ∧ m_root μ3 = m_root μ ∧ m_objects μ3 = nI (M + 1) ∧ m_kind μ3 = upd (m_kind μ) M (nI k) ∧ m_links μ3 = m_links μ ∧ m_values μ3 = m_values μ ∧ m_plain μ3 = m_plain μ ∧ m_link μ3 = m_link μ ∧ m_number μ3 = m_number μ ∧ m_refers μ3 = m_refers μ ∧ m_word μ3 = m_word μ ∧ m_length μ3 = upd (m_length μ) M (nI n) ∧ m_madeOf μ3 = upd (m_madeOf μ) M (nI h) ∧ m_spread μ3 = m_spread μ ∧ ∀ o, o < M → m_a μ3 o = m_a μ o ∧ m_b μ3 o = m_b μ o ∧ m_units μ3 o = m_units μ o
theorem TxM.agb {μ μ3 : mS} {M k n h : Nat} (t : TxM μ μ3 M k n h) : AgB μ μ3 M := by
  obtain ⟨t1, t2, t3, t4, t5, t6, t7, t8, t9, t10, t11, t12, t13, t14, t15⟩ := t
  intro o o1 o2
  obtain ⟨a1, a2, a3⟩ := t15 o o2
  refine ⟨⟨?_, by rw [t5], by rw [t6], by rw [t7], ?_, ?_, a1, a2, by rw [t14], fun i _ => ⟨by rw [t8], by rw [t10], by rw [t9]⟩, fun i _ => by rw [t11]⟩, a3⟩
  · rw [t4]; exact pk_un (by omega)
  · rw [t12]; exact pk_un (by omega)
  · rw [t13]; exact pk_un (by omega)
theorem TxM.len {μ μ3 : mS} {M k n h : Nat} (t : TxM μ μ3 M k n h) (hn : n ≤ 4000) : m_length μ3 M = nI n ∧ mlen μ3 M = n := by
  obtain ⟨t1, t2, t3, t4, t5, t6, t7, t8, t9, t10, t11, t12, t13, t14, t15⟩ := t
  have e : m_length μ3 M = nI n := by rw [t12]; exact pk_us
  exact ⟨e, by unfold mlen; rw [e, nI_clamp (by omega)]⟩
theorem TxM.mi {μ μ3 : mS} {M k n h : Nat} (t : TxM μ μ3 M k n h) (hI : MI μ M) (hM : M + 1 ≤ 4000) (hn : n ≤ 4000) (hm : (h = 0 ∧ n ≤ 4) ∨ (h = 1 ∧ ∃ t s, m_a μ3 M = nI t ∧ m_b μ3 M = nI s ∧ 1 ≤ t ∧ t < M ∧ s + n ≤ mlen μ t) ∨
     (h = 2 ∧ ∃ t1 t2, m_a μ3 M = nI t1 ∧ m_b μ3 M = nI t2 ∧ 1 ≤ t1 ∧ t1 < M ∧ 1 ≤ t2 ∧ t2 < M ∧ n = mlen μ t1 + mlen μ t2 ∧ 1 ≤ mlen μ t1 ∧ 1 ≤ mlen μ t2)) : MI μ3 (M + 1) := by
  obtain ⟨l1, l2⟩ := t.len hn
  have hA := t.agb
  obtain ⟨t1, t2, t3, t4, t5, t6, t7, t8, t9, t10, t11, t12, t13, t14, t15⟩ := t
  obtain ⟨q1, q2, q3, q4, -⟩ := id hI
  obtain ⟨tl1, tl2, tl3⟩ := hI.tl
  have hml : ∀ o, 1 ≤ o → o < M → mlen μ3 o = mlen μ o := fun o o1 o2 => by unfold mlen; rw [(hA.txt o o1 o2).1]
  have hmo : m_madeOf μ3 M = nI h := by rw [t13]; exact pk_us
  refine MI_mk (by omega) hM t3 (by rw [t4, pk_un (by omega)]; exact q4) (MT_new hI.mt hA.txt ⟨by rw [l2]; exact l1, by omega, ?_⟩) ⟨fun i hi => by rw [t5, t6]; exact tl1 i (by omega), fun i hi => by rw [t8, t10, t9]; exact tl2 i (by omega), fun i hi => by rw [t11]; exact tl3 i (by omega)⟩
  rw [l2, hmo]
  rcases hm with ⟨e, e1⟩ | ⟨e, t, s, e1, e2, e3, e4, e5⟩ | ⟨e, t1, t2, e1, e2, e3, e4, e5, e6, e7, e8, e9⟩
  · subst e; exact Or.inl ⟨rfl, e1⟩
  · subst e; exact Or.inr (Or.inl ⟨rfl, t, s, e1, e2, e3, e4, by rw [hml t e3 e4]; exact e5⟩)
  · subst e; exact Or.inr (Or.inr ⟨rfl, t1, t2, e1, e2, e3, e4, e5, e6, by rw [hml t1 e3 e4, hml t2 e5 e6]; exact e7, by rw [hml t1 e3 e4]; exact e8, by rw [hml t2 e5 e6]; exact e9⟩)
theorem ObR_flat {f : Nat → Int32} {μ : mS} {R : Nat → Nat → Prop} {U M k n s : Nat} (hk : k = 2 ∨ k = 5) (hn : n ≤ 4000) (hs : s = 4 + (n + 1) / 2) (hh : f U = nI (hdr k 0 0 s)) (hlen : f (U + 3) = nI n) (hun : ∀ i, i < n → un f U i = uo μ M i) (hodd : n % 2 = 1 → un f U n = 0) (h1 : m_kind μ M = nI k) (h2 : m_length μ M = nI n) (h3 : m_links μ M = 0) (h4 : m_values μ M = 0) : ObR f μ R U M := by
  obtain ⟨r1, r2, r3, r4, r5⟩ := hdr_rd (f := f) (a := U) (k := k) (l := 0) (v := 0) (s := s) (by omega) (by omega) (by omega) (by omega) hh
  refine ⟨by rw [r1]; exact h1, Or.inr ⟨r3, h3, h4, n, hn, h2, ?_, Or.inl ⟨by rw [r1]; exact hk, r2, by rw [r4]; exact hs, hun, hodd⟩⟩⟩
  rw [r2]
  exact hlen
/-- a new flat text on both sides -/
theorem Sim_txt {σ1 σ3 : oS} {μ μ3 : mS} {os nl : List Nat} {U M n h s : Nat} {R : Nat → Nat → Prop} (hS : Sim σ1 μ os U nl M R) (hX : Ext σ1 σ3 U 2 0 0 s) (hn : n ≤ 4000) (hs : s = 4 + (n + 1) / 2) (hlen : o_fw σ3 (U + 3) = nI n) (hun : ∀ i, i < n → un (o_fw σ3) U i = uo μ3 M i) (hodd : n % 2 = 1 → un (o_fw σ3) U n = 0) (hT : TxM μ μ3 M 2 n h) (hMI : MI μ3 (M + 1)) : Sim σ3 μ3 (os ++ [U]) (U + s) nl (M + 1) (RA R U M) := by
  have hA := hT.agb
  obtain ⟨l1, l2⟩ := hT.len hn
  obtain ⟨t1, t2, t3, t4, t5, t6, t7, t8, t9, t10, t11, t12, t13, t14, t15⟩ := hT
  obtain ⟨tl1, tl2, tl3⟩ := hS.2.1.tl
  refine Sim_new hS hX (by omega) (by omega) (by omega) (by omega) (by omega) (by omega) (fun i hi => absurd hi (by omega)) (fun i hi => absurd hi (by omega)) hA hMI t2 t1 ?_
  exact ObR_flat (Or.inl rfl) hn hs hX.2.2.2.2.2.2.2.1 hlen hun hodd (by rw [t4]; exact pk_us) l1 (by rw [t5]; exact (tl1 M (Nat.le_refl _)).1) (by rw [t6]; exact (tl1 M (Nat.le_refl _)).2)
/-- the words of a flat text, or of a joint -/
theorem words_flat {F : Nat} {μ' : mS} {M n k : Nat} (hM : M < 4096) (hn : n ≤ 4000) (hk : k = 2 ∨ k = 5) (y1 : m_kind μ' M = nI k) (y2 : m_length μ' M = nI n) : fX1_words F μ' (nI M) = some (nI (4 + (n + 1) / 2), μ') := by
  have hin : vp_in (nI M) 4096 := vp_in_nI (by omega) (by omega)
  have hcl : (nI M).toNatClampNeg = M := nI_clamp (by omega)
  have e : (4 : Int32) + (nI n + 1) / 2 = nI (4 + (n + 1) / 2) := by rw [nI_1, half2 _ (by omega), nI4l, nI_add]
  unfold fX1_words JX1_words_55
  simp only [nmd_v, ck_t hin, hcl]
  rw [y1, y2, e]
  rcases hk with rfl | rfl
  · rw [cIf_f (by decide), cIf_t (show nI 2 = 2 from rfl)]
  · rw [cIf_f (by decide), cIf_f (by decide), cIf_t (show nI 5 = 5 from rfl)]
theorem words_joint {F : Nat} {μ' : mS} {M : Nat} (hM : M < 4096) (y1 : m_kind μ' M = nI 3) : fX1_words F μ' (nI M) = some (nI 6, μ') := by
  have hin : vp_in (nI M) 4096 := vp_in_nI (by omega) (by omega)
  have hcl : (nI M).toNatClampNeg = M := nI_clamp (by omega)
  unfold fX1_words JX1_words_55
  simp only [nmd_v, ck_t hin, hcl]
  rw [y1, cIf_f (by decide), cIf_f (by decide), cIf_f (by decide)]
  rfl
/-- a refused object leaves the two states alike -/
theorem Sim_MkF {σ : oS} {μ μ2 : mS} {os nl : List Nat} {U M k n h : Nat} {R : Nat → Nat → Prop} (hS : Sim σ μ os U nl M R) (hF : MkF μ μ2 M k n h) : Sim σ μ2 os U nl M R := by
  obtain ⟨f1, f2, f3, f4, f5, f6, f7, f8, f9, f10, f11, f12, f13, f14, f15, f16, f17, f18⟩ := hF
  obtain ⟨q1, q2, q3, q4, -⟩ := id hS.2.1
  obtain ⟨tl1, tl2, tl3⟩ := hS.2.1.tl
  refine Sim_mu hS (fun o o1 o2 => ?_) f4 (by rw [f5, pk_un (by omega)]; exact q4) ⟨fun i hi => ?_, by rw [f9, f11, f10]; exact tl2, by rw [f12]; exact tl3⟩ f3 f2
  · refine ⟨⟨?_, ?_, ?_, ?_, ?_, ?_, by rw [f15], by rw [f16], by rw [f18], fun i _ => ⟨by rw [f9], by rw [f11], by rw [f10]⟩, fun i _ => by rw [f12]⟩, by rw [f17]⟩
    · rw [f5]; exact pk_un (by omega)
    · rw [f6]; exact pk_un (by omega)
    · rw [f7]; exact pk_un (by omega)
    · rw [f8]; exact pk_un (by omega)
    · rw [f13]; exact pk_un (by omega)
    · rw [f14]; exact pk_un (by omega)
  · rw [f6, f7]
    by_cases e : i = M
    · rw [e, pk_us, pk_us]; exact ⟨rfl, rfl⟩
    · rw [pk_un e, pk_un e]; exact tl1 i hi
theorem P_full0 {F : Nat} {μ : mS} : fX1_full F μ 0 = some (0, m_s_thrown μ 2) := by
  unfold fX1_full
  rw [cIf_t rfl]
  rfl
theorem P_full1 {F : Nat} {μ : mS} {M : Nat} (h1 : 1 ≤ M) (h2 : M < 2 ^ 31) : fX1_full F μ (nI M) = some (nI M, m_s_thrown μ 0) := by
  unfold fX1_full
  rw [cIf_f (nI_ne0 (by omega) h2)]
  rfl
/-- text's loop -/
theorem P_text_loop {F : Nat} {K : Int32 → oS → Option ((Int32 ⊕ Unit) × oS × Nat × Nat)} {x : Int64} {v1 : Int32} {n b : Nat} (hn : n ≤ 4) (k : Nat) : ∀ (m i : Nat) (σ : oS), i + k = n → k < m → b + 4 + 2 ≤ o_lw σ + (2 - (n + 1) / 2) → o_lw σ ≤ 1048576 → (∀ j, i ≤ j → j < n → un (o_fw σ) b j = 0) →
    ∃ g, LX0_text_35 F K v1 x (nI n) (nI b) m (nI i) σ = K (nI n) (o_s_fw σ g) ∧ (∀ y, y < b + 4 ∨ b + 4 + (n + 1) / 2 ≤ y → g y = o_fw σ y) ∧ ∀ j, un g b j = if i ≤ j ∧ j < n then u0 x n j else un (o_fw σ) b j := by
  induction k with
  | zero =>
    intro m i σ hi hm hl hb h0
    obtain ⟨m, rfl⟩ : ∃ q, m = q + 1 := ⟨m - 1, by omega⟩
    have e : i = n := by omega
    subst e
    refine ⟨o_fw σ, ?_, fun _ _ => rfl, fun j => ?_⟩
    · rw [LX0_text_35, cIf_t (nI_le (Nat.le_refl _) (by omega))]
      rfl
    · rw [if_neg (by omega)]
  | succ k ih =>
    intro m i σ hi hm hl hb h0
    obtain ⟨m, rfl⟩ : ∃ q, m = q + 1 := ⟨m - 1, by omega⟩
    have hput := un_put (u0_lt x n i) (h0 i (Nat.le_refl _) (by omega))
    generalize hσ1 : upd (o_fw σ) (b + 4 + i / 2) (uput (o_fw σ (b + 4 + i / 2)) i (u0 x n i)) = f1 at hput
    have hout : ∀ y, y < b + 4 ∨ b + 4 + (n + 1) / 2 ≤ y → f1 y = o_fw σ y := fun y hy => by rw [← hσ1]; exact pk_un (by omega)
    obtain ⟨g, g1, g2, g3⟩ := ih m (i + 1) (o_s_fw σ f1) (by omega) (by omega) hl hb (fun j h1 h2 => by
      show un f1 b j = 0
      rw [hput j, if_neg (by omega)]
      exact h0 j (by omega) h2)
    refine ⟨g, ?_, fun y hy => (g2 y hy).trans (hout y hy), fun j => ?_⟩
    · rw [LX0_text_35, cIf_f (nI_ge (by omega) (by omega)), nmd_v, nI1l, pk_sub (by omega), pk_sub (by omega), show (16 : Int32) * nI (n - 1 - i) = nI (16 * (n - 1 - i)) from pk_mul 16 _, u0_put x hn (by omega), P_putUnit (by omega) hb (by omega), bnp_s, nmd_v, ← nI1l, nI_1, hσ1, g1]
      rfl
    · rw [g3 j]
      show (if i + 1 ≤ j ∧ j < n then u0 x n j else un f1 b j) = _
      by_cases c1 : i + 1 ≤ j ∧ j < n
      · rw [if_pos c1, if_pos (by omega)]
      · rw [if_neg c1, hput j]
        by_cases c2 : j = i
        · rw [if_pos c2, if_pos (by omega), c2]
        · rw [if_neg c2, if_neg (by omega)]
theorem C_text {F : Nat} {σ : oS} {μ : mS} {M : Nat} (hF : 1048600 < F) (hM : M + 2 ≤ 4000) (p1 : Int32) (p2 : Int64) (p3 : Int32) (h : Sm σ μ M) : ∃ r σ' C N μ', fX0_text F σ p1 p2 p3 = some (r, σ', C, N) ∧ fX1_text F μ p1 p2 p3 = some μ' ∧ m_thrown μ' = xC r ∧ After σ M σ' μ' C N := by
  obtain ⟨os, U, nl, R, hS⟩ := h
  have fail : ∀ v1 v2 v4, JX1_text_22 F μ v1 v2 v4 = some (m_s_thrown μ 1) := fun v1 v2 v4 => by
    unfold JX1_text_22 JX1_text_23
    rw [P_says0, bnd_s, cIf_t rfl]
  unfold fX0_text fX1_text
  rw [nI4l]
  rcases root_cs p1 with ⟨q, hq, rfl⟩ | hn
  · rw [P_needRoot_t hq, P_isRoot_t hq, bndN_r, bnp_s, cIf_f one_ne0]
    rcases upTo_cs p3 4 (by omega) with ⟨n, hn, rfl⟩ | hn
    · obtain ⟨a1, a2⟩ := P_upTo_t (F := F) hn (by omega)
      rw [a1, a2, bnp_s, bnp_s, cIf_f one_ne0, cIf_f one_ne0]
      unfold JX1_text_23
      rw [P_says1, bnd_s, cIf_f one_ne0]
      have hS0 := Sim_thrown hS 0
      obtain ⟨L, hL, hmL, hLb⟩ := Sim_L hS0
      obtain ⟨hMI1, hMI2, ho, hk0, -⟩ := id hS0.2.1
      obtain ⟨σ1, os1, U1, nl1, R1, hS1, hl1, hp1, hmk⟩ := P_makeFlat hF hS0 (k := 2) (n := n) (by omega) (by omega) rfl hL hLb
      obtain ⟨m1, m2⟩ := P_mmake (k := 2) (n := n) (h := 0) (s := 4 + (n + 1) / 2) hF hS0 (AgB.rf _ M) ho rfl hmL hLb (by omega) (fun μ' y1 y2 _ _ _ => words_flat (by omega) (by omega) (Or.inl rfl) y1 y2)
      rcases hmk with ⟨hf, c1⟩ | ⟨hf, σ2, C, N, c1, hX, c3, c4, c5, c6⟩
      · obtain ⟨μ2, d1, hFm⟩ := m2 hf
        have d1' : fX1_make F (m_s_thrown μ 0) 2 (nI n) 0 = some (0, μ2) := d1
        have c1' : fX0_makeFlat F σ 2 (nI n) = some (.inl 2, σ1, 1, 6) := c1
        rw [c1', d1', bndX_l, bnd_s, P_full0, bnd_s, cIf_t rfl]
        exact ⟨_, _, _, _, _, rfl, rfl, rfl, After.mk (Sim_thrown (Sim_MkF hS1 hFm) 2) (Nat.le_refl _) (by omega) hL hl1 (by omega) hp1 (σ2 := σ1) (by omega) (Nat.le_refl _)⟩
      · obtain ⟨μ2, d1, f1, f2, f3, f4, f5, f6, f7, f8, f9, f10, f11, f12, f13, f14, f15, f16, f17, f18⟩ := m1 hf
        have d1' : fX1_make F (m_s_thrown μ 0) 2 (nI n) 0 = some (nI M, μ2) := d1
        have c1' : fX0_makeFlat F σ 2 (nI n) = some (.inr (nI U1), σ2, C, N) := c1
        have hlw := hX.2.2.2.2.2.1 L hl1 hLb
        have hls := hX.2.2.2.2.1
        obtain ⟨g, g1, g2, g3⟩ := P_text_loop (F := F) (K := (fun w10 σ11 => ck (vp_in (nI q) 24) (nmd (o_s_fr σ11 (upd (o_fr σ11) q (nI U1))) (fun σ13 => some (.inr (), σ13, 0, 0))))) (x := p2) (v1 := nI q) (b := U1) hn n F 0 σ2 (by omega) (by omega) (by omega) (by omega) (fun j _ hj => un_fresh c4 (by omega))
        have g1' : LX0_text_35 F (fun w10 σ11 => ck (vp_in (nI q) 24) (nmd (o_s_fr σ11 (upd (o_fr σ11) q (nI U1))) (fun σ13 => some (.inr (), σ13, 0, 0)))) (nI q) p2 (nI n) (nI U1) F 0 σ2 = some (.inr (), o_s_fr (o_s_fw σ2 g) (upd (o_fr (o_s_fw σ2 g)) q (nI U1)), 0, 0) := by
          refine g1.trans ?_
          rw [ck_t (in24 hq), nmd_v]
        rw [c1', d1', bnd_s, P_full1 (by omega) (by omega), bnd_s, cIf_f (nI_ne0 (by omega) (by omega)), ck_t (vp_in_nI (by omega) (by omega)), nI_clamp (n := M) (by omega), nmd_v, ck_t (in24 hq), cl24 hq, nmd_v]
        have hX3 : Ext σ1 (o_s_fw σ2 g) U1 2 0 0 (4 + (n + 1) / 2) := hX.fill (fun x hx => g2 x (by omega))
        have hT : TxM (m_s_thrown μ 0) (m_s_units (m_s_thrown μ2 0) (vp_updL (m_units (m_s_thrown μ2 0)) M p2)) M 2 n 0 := ⟨f2, f3, f4, f5, f6, f7, f8, f9, f10, f11, f12, f13, f14, f18, fun o ho2 => ⟨congrFun f15 o, congrFun f16 o, (pk_uLn (by omega)).trans (congrFun f17 o)⟩⟩
        have hMI' := hT.mi hS1.2.1 (by omega) (by omega) (Or.inl ⟨rfl, hn⟩)
        have hmo : m_madeOf (m_s_units (m_s_thrown μ2 0) (vp_updL (m_units (m_s_thrown μ2 0)) M p2)) M = 0 := by
          show m_madeOf μ2 M = 0
          rw [f14]; exact pk_us
        have hu : ∀ i, uo (m_s_units (m_s_thrown μ2 0) (vp_updL (m_units (m_s_thrown μ2 0)) M p2)) M i = u0 p2 n i := fun i => by
          rw [uo_0 hmo, (hT.len (by omega)).2]
          show u0 (vp_updL (m_units (m_s_thrown μ2 0)) M p2 M) n i = _
          rw [pk_uLs]
        have hS3 := Sim_txt hS1 hX3 (by omega) rfl ((g2 _ (by omega)).trans c3) (fun i hi => by rw [hu i]; exact (g3 i).trans (if_pos ⟨Nat.zero_le _, hi⟩)) (fun ho2 => by
          refine (g3 n).trans ?_
          rw [if_neg (by omega)]
          exact un_fresh c4 (by omega)) hT hMI'
        have hS4 := Sim_root (q := q) hS3 (x := nI U1) (y := nI M) (Or.inr ⟨U1, M, rfl, rfl, Or.inr ⟨rfl, rfl⟩⟩)
        refine ⟨.inr (), _, C + 0, N + 0, _, bndX_k g1', rfl, rfl, ?_⟩
        exact After.mk (σ1 := σ1) (σ2 := σ2) hS4 (by omega) (by omega) hL (hX.1.1.trans hl1) (by omega) hp1 (by omega) (Nat.le_refl _)
    · obtain ⟨a1, a2⟩ := P_upTo_f (F := F) hn (by omega)
      rw [a1, a2, bnp_s, bnp_s, cIf_t rfl, cIf_t rfl, fail]
      exact ⟨_, _, _, _, _, rfl, rfl, rfl, After.keep (Sim_thrown hS 1) (by omega) (by omega)⟩
  · rw [P_needRoot_f hn, P_isRoot_f hn, bndN_l, bnp_s, cIf_t rfl, fail]
    exact ⟨_, _, _, _, _, rfl, rfl, rfl, After.keep (Sim_thrown hS 1) (by omega) (by omega)⟩
