/-! objects that a change leaves alone; a text's units -/
def AgO (μ μ' : mS) (o : Nat) : Prop :=
  m_kind μ' o = m_kind μ o ∧ m_links μ' o = m_links μ o ∧ m_values μ' o = m_values μ o ∧ m_plain μ' o = m_plain μ o ∧ m_length μ' o = m_length μ o ∧ m_madeOf μ' o = m_madeOf μ o ∧ m_a μ' o = m_a μ o ∧ m_b μ' o = m_b μ o ∧ m_spread μ' o = m_spread μ o ∧
  (∀ i, i < 8 → m_link μ' (8 * o + i) = m_link μ (8 * o + i) ∧ m_refers μ' (8 * o + i) = m_refers μ (8 * o + i) ∧ m_number μ' (8 * o + i) = m_number μ (8 * o + i)) ∧ ∀ i, i < 16 → m_word μ' (16 * o + i) = m_word μ (16 * o + i)
theorem PtR.mono {R R' : Nat → Nat → Prop} (hR : ∀ b p, R b p → R' b p) {x y : Int32} (h : PtR R x y) : PtR R' x y := by
  rcases h with h | ⟨b, p, e1, e2, h⟩
  · exact Or.inl h
  · exact Or.inr ⟨b, p, e1, e2, hR b p h⟩
theorem VlR.mono {R R' : Nat → Nat → Prop} (hR : ∀ b p, R b p → R' b p) {x y r : Int32} {n : Int64} (h : VlR R x y r n) : VlR R' x y r n := by
  rcases h with ⟨h0, b, p, e1, e2, h⟩ | h
  · exact Or.inl ⟨h0, b, p, e1, e2, hR b p h⟩
  · exact Or.inr h
theorem ObR_fr {f f' : Nat → Int32} {μ μ' : mS} {R R' : Nat → Nat → Prop} {a o : Nat} (ho : okO f a) (hf : ∀ i, i < sz f a → i = 0 ∨ 3 ≤ i → f' (a + i) = f (a + i)) (hA : AgO μ μ' o) (hu : ∀ k, uo μ' o k = uo μ o k) (hP : ∀ b p, R b p → (m_kind μ p = 2 → m_kind μ' p = 2) ∧ m_length μ' p = m_length μ p ∧ ∀ k, uo μ' p k = uo μ p k) (hR : ∀ b p, R b p → R' b p) (h : ObR f μ R a o) : ObR f' μ' R' a o := by
  obtain ⟨A1, A2, A3, A4, A5, A6, A7, A8, A9, A10, A11⟩ := hA
  have h3 := okO_3 ho
  have hsz := ho.2
  have e0 : f' a = f a := hf 0 (by omega) (Or.inl rfl)
  have ek := kd_congr e0
  have el := lk_congr e0
  have ev := vl_congr e0
  have es := sz_congr e0
  have hp : ∀ i, 3 ≤ i → i < sz f a → f' (a + i) = f (a + i) := fun i h1 h2 => hf i h2 (Or.inr h1)
  obtain ⟨hk, h⟩ := h
  refine ⟨by rw [A1, ek]; exact hk, ?_⟩
  rcases h with h | h
  · obtain ⟨h1, h2, h3, h4, h5, h6, h7, h8, h9, h10⟩ := h
    refine Or.inl ⟨by rw [ek]; exact h1, by rw [el]; exact h2, by rw [ev]; exact h3, by rw [es, el, ev]; exact h4, by rw [A2, el]; exact h5, by rw [A3, ev]; exact h6, by rw [A4, es, el, ev]; exact h7, fun i hi => ?_, fun j hj => ?_, fun i hi => ?_, by rw [A5]; exact h10.2⟩
    · rw [el] at hi
      rw [(A10 i (by omega)).1, show a + 3 + i = a + (3 + i) by omega, hp _ (by omega) (by omega), show a + (3 + i) = a + 3 + i by omega]
      exact (h8 i hi).mono hR
    · rw [ev] at hj
      obtain ⟨q1, q2, q3⟩ := A10 j (by omega)
      rw [el, q2, q3, show a + 3 + lk f a + 2 * j + 1 = a + (3 + lk f a + 2 * j + 1) by omega, hp _ (by omega) (by omega), show a + (3 + lk f a + 2 * j + 1) = a + 3 + lk f a + 2 * j + 1 by omega, show a + 3 + lk f a + 2 * j = a + (3 + lk f a + 2 * j) by omega, hp _ (by omega) (by omega), show a + (3 + lk f a + 2 * j) = a + 3 + lk f a + 2 * j by omega]
      exact (h9 j hj).mono hR
    · rw [el, ev, es] at hi
      rw [el, ev, A11 i (by omega), hp _ (by omega) hi]
      exact h10.1 i hi
  · obtain ⟨h1, h2, h3, n, h4, h5, h6, h⟩ := h
    have hlk : 3 + lk f a < sz f a := by rcases h with ⟨_, e1, e2, _⟩ | ⟨_, e1, e2, _⟩ | ⟨_, e1, e2, _⟩ <;> omega
    refine Or.inr ⟨by rw [ev]; exact h1, by rw [A2]; exact h2, by rw [A3]; exact h3, n, h4, by rw [A5]; exact h5, ?_, ?_⟩
    · rw [el, show a + 3 + lk f a = a + (3 + lk f a) by omega, hp _ (by omega) hlk, show a + (3 + lk f a) = a + 3 + lk f a by omega]
      exact h6
    · rcases h with ⟨q1, q2, q3, q4, q5⟩ | ⟨q1, q2, q3, q4, q5, ⟨a1, o1, r1, r2, r3⟩, a2, o2, t1, t2, t3⟩ | ⟨q1, q2, q3, q4, ⟨a1, o1, r1, r2, r3, r4, r5, r6⟩, t1⟩
      · have hun : ∀ k, 4 + k / 2 < sz f a → un f' a k = un f a k := fun k hk2 => by
          unfold un
          rw [show a + 4 + k / 2 = a + (4 + k / 2) by omega, hp _ (by omega) hk2]
        refine Or.inl ⟨by rw [ek]; exact q1, by rw [el]; exact q2, by rw [es]; exact q3, fun k hk2 => ?_, fun hn => ?_⟩
        · rw [hun k (by omega), hu]; exact q4 k hk2
        · rw [hun n (by omega)]; exact q5 hn
      · refine Or.inr (Or.inl ⟨by rw [ek]; exact q1, by rw [el]; exact q2, by rw [es]; exact q3, q4, by rw [A6]; exact q5, ⟨a1, o1, ?_, by rw [A7]; exact r2, hR _ _ r3⟩, a2, o2, ?_, by rw [A8]; exact t2, hR _ _ t3⟩)
        · rw [hp 3 (by omega) (by omega)]; exact r1
        · rw [hp 4 (by omega) (by omega)]; exact t1
      · obtain ⟨p1, p2, p3⟩ := hP a1 o1 r3
        refine Or.inr (Or.inr ⟨by rw [ek]; exact q1, by rw [el]; exact q2, by rw [es]; exact q3, q4, ⟨a1, o1, ?_, by rw [A9]; exact r2, hR _ _ r3, p1 r4, by rw [p2]; exact r5, fun k hk2 => by rw [p3, hu]; exact r6 k hk2⟩, ?_⟩)
        · rw [hp 3 (by omega) (by omega)]; exact r1
        · rw [hp 4 (by omega) (by omega)]; exact t1
/-- how texts are made, in the reference -/
def MT (μ : mS) (M : Nat) : Prop := ∀ o, 1 ≤ o → o < M → m_length μ o = nI (mlen μ o) ∧ mlen μ o ≤ 4000 ∧
    ((m_madeOf μ o = 0 ∧ mlen μ o ≤ 4) ∨ (m_madeOf μ o = 1 ∧ ∃ t s, m_a μ o = nI t ∧ m_b μ o = nI s ∧ 1 ≤ t ∧ t < o ∧ s + mlen μ o ≤ mlen μ t) ∨
     (m_madeOf μ o = 2 ∧ ∃ t1 t2, m_a μ o = nI t1 ∧ m_b μ o = nI t2 ∧ 1 ≤ t1 ∧ t1 < o ∧ 1 ≤ t2 ∧ t2 < o ∧ mlen μ o = mlen μ t1 + mlen μ t2 ∧ 1 ≤ mlen μ t1 ∧ 1 ≤ mlen μ t2))
theorem MI.mt {μ : mS} {M : Nat} (h : MI μ M) : MT μ M := h.2.2.2.2.1
theorem uoF_fuel {μ : mS} {M : Nat} (hM : M ≤ 4000) (h : MT μ M) (o : Nat) : ∀ n m k, 1 ≤ o → o < M → o < n → o < m → uoF μ n o k = uoF μ m o k := by
  induction o using Nat.strongRecOn with
  | ind o ih =>
    intro n m k h1 h2 hn hm
    obtain ⟨n, rfl⟩ : ∃ q, n = q + 1 := ⟨n - 1, by omega⟩
    obtain ⟨m, rfl⟩ : ∃ q, m = q + 1 := ⟨m - 1, by omega⟩
    obtain ⟨_, l2, h3⟩ := h o h1 h2
    rw [uoF, uoF]
    rcases h3 with ⟨e, _⟩ | ⟨e, t, s, e1, e2, e3, e4, e5⟩ | ⟨e, t1, t2, e1, e2, e3, e4, e5, e6, e7⟩
    · rw [if_neg (by rw [e]; decide), if_neg (by rw [e]; decide), if_neg (by rw [e]; decide), if_neg (by rw [e]; decide)]
    · rw [if_pos e, if_pos e, e1, nI_clamp (by omega)]
      exact ih t e4 n m _ e3 (by omega) (by omega) (by omega)
    · have hn1 : ¬ m_madeOf μ o = 1 := by rw [e]; decide
      rw [if_neg hn1, if_neg hn1, if_pos e, if_pos e, e1, e2, nI_clamp (by omega), nI_clamp (by omega), ih t1 e4 n m _ e3 (by omega) (by omega) (by omega), ih t2 e6 n m _ e5 (by omega) (by omega) (by omega)]
theorem uo_0 {μ : mS} {o k : Nat} (h : m_madeOf μ o = 0) : uo μ o k = u0 (m_units μ o) (mlen μ o) k := by
  unfold uo
  rw [uoF, if_neg (by rw [h]; decide), if_neg (by rw [h]; decide)]
  rfl
theorem uo_1 {μ : mS} {M o k t s : Nat} (hM : M ≤ 4000) (hT : MT μ M) (h1 : 1 ≤ o) (h2 : o < M) (h : m_madeOf μ o = 1) (ea : m_a μ o = nI t) (eb : m_b μ o = nI s) (ht1 : 1 ≤ t) (ht : t < o) (hs : s < 2 ^ 31) : uo μ o k = uo μ t (k + s) := by
  unfold uo
  rw [uoF, if_pos h, ea, eb, nI_clamp (by omega), nI_clamp hs]
  exact uoF_fuel hM hT t _ _ _ ht1 (by omega) (by omega) (by omega)
theorem uo_2 {μ : mS} {M o k t1 t2 : Nat} (hM : M ≤ 4000) (hT : MT μ M) (h1 : 1 ≤ o) (h2 : o < M) (h : m_madeOf μ o = 2) (ea : m_a μ o = nI t1) (eb : m_b μ o = nI t2) (ht1 : 1 ≤ t1) (ht : t1 < o) (hs1 : 1 ≤ t2) (hs : t2 < o) : uo μ o k = if k < mlen μ t1 then uo μ t1 k else uo μ t2 (k - mlen μ t1) := by
  unfold uo
  rw [uoF, if_neg (by rw [h]; decide), if_pos h, ea, eb, nI_clamp (by omega), nI_clamp (by omega), uoF_fuel hM hT t1 o (t1 + 1) _ ht1 (by omega) (by omega) (by omega), uoF_fuel hM hT t2 o (t2 + 1) _ hs1 (by omega) (by omega) (by omega)]
  rfl
theorem uo_congr {μ μ' : mS} {M : Nat} (hM : M ≤ 4000) (h : MT μ M) (hg : ∀ o, 1 ≤ o → o < M → m_length μ' o = m_length μ o ∧ m_madeOf μ' o = m_madeOf μ o ∧ m_a μ' o = m_a μ o ∧ m_b μ' o = m_b μ o ∧ m_units μ' o = m_units μ o) (n : Nat) : ∀ o k, 1 ≤ o → o < M → uoF μ' n o k = uoF μ n o k := by
  induction n with
  | zero => intro o k _ _; rfl
  | succ n ih =>
    intro o k h1 h2
    obtain ⟨g1, g2, g3, g4, g5⟩ := hg o h1 h2
    obtain ⟨_, l2, h3⟩ := h o h1 h2
    rw [uoF, uoF, g2, g3, g4, g5, g1]
    rcases h3 with ⟨e, _⟩ | ⟨e, t, s, e1, e2, e3, e4, e5⟩ | ⟨e, t1, t2, e1, e2, e3, e4, e5, e6, e7⟩
    · rw [if_neg (by rw [e]; decide), if_neg (by rw [e]; decide), if_neg (by rw [e]; decide), if_neg (by rw [e]; decide)]
    · rw [if_pos e, if_pos e, e1, nI_clamp (by omega)]
      exact ih t _ e3 (by omega)
    · have hn1 : ¬ m_madeOf μ o = 1 := by rw [e]; decide
      rw [if_neg hn1, if_neg hn1, if_pos e, if_pos e, e1, e2, nI_clamp (by omega), nI_clamp (by omega), ih t1 _ e3 (by omega), ih t2 _ e5 (by omega), (hg t1 e3 (by omega)).1]
theorem and16_lt (x : Int64) : (x &&& 65535).toBitVec.toNat < 65536 := by
  have : (x &&& 65535).toBitVec.toNat = x.toBitVec.toNat % 65536 := by
    rw [Int64.toBitVec_and, BitVec.toNat_and]
    exact Nat.and_two_pow_sub_one_eq_mod _ 16
  omega
theorem and16_nI (x : Int64) : (x &&& 65535).toInt32 = nI (x.toBitVec.toNat % 65536) := by
  have h : (x &&& 65535).toBitVec.toNat = x.toBitVec.toNat % 65536 := by
    rw [Int64.toBitVec_and, BitVec.toNat_and]
    exact Nat.and_two_pow_sub_one_eq_mod _ 16
  apply Int32.toBitVec_inj.mp
  apply BitVec.eq_of_toNat_eq
  rw [pk_tn (by omega)]
  show ((x &&& 65535).toBitVec.signExtend 32).toNat = _
  rw [BitVec.signExtend_eq_setWidth_of_le _ (by omega), BitVec.toNat_setWidth, h]
  omega
theorem u0_eq (x : Int64) (n k : Nat) : ((x >>> ((nI (16 * (n - 1 - k))).toInt64 &&& 63)) &&& 65535).toInt32 = nI (u0 x n k) := by
  unfold u0
  rw [and16_nI, nI_clamp (by omega)]
theorem u0_lt (x : Int64) (n k : Nat) : u0 x n k < 65536 := by
  unfold u0
  rw [and16_nI, nI_clamp (by omega)]
  omega
theorem uoF_lt (μ : mS) (n : Nat) : ∀ o k, uoF μ n o k < 65536 := by
  induction n with
  | zero => intro o k; rw [uoF]; omega
  | succ n ih =>
    intro o k
    rw [uoF]
    by_cases h1 : m_madeOf μ o = 1
    · rw [if_pos h1]; exact ih _ _
    · rw [if_neg h1]
      by_cases h2 : m_madeOf μ o = 2
      · rw [if_pos h2]
        by_cases h3 : k < (m_length μ (m_a μ o).toNatClampNeg).toNatClampNeg
        · rw [if_pos h3]; exact ih _ _
        · rw [if_neg h3]; exact ih _ _
      · rw [if_neg h2]; exact u0_lt _ _ _
theorem uo_lt (μ : mS) (o k : Nat) : uo μ o k < 65536 := uoF_lt μ _ o k
noncomputable def uK : Int32 → Int32 → mS → Option (Int32 × mS) := fun w26 w27 σ28 => ck (vp_in w26 4096) (nmd (m_units σ28 w26.toNatClampNeg) (fun x30 => ck (vp_in w26 4096) (nmd (m_length σ28 w26.toNatClampNeg) (fun x32 => some (((x30 >>> ((16 * ((x32 - 1) - w27)).toInt64 &&& 63)) &&& 65535).toInt32, σ28)))))
/-- a unit of a text, as the reference finds it -/
theorem P_unitOf {F : Nat} {μ : mS} {M : Nat} (hM : M ≤ 4000) (hT : MT μ M) (v1 v2 : Int32) (o : Nat) : ∀ n k, 1 ≤ o → o < M → k < mlen μ o → o < n →
    LX1_unitOf_5 F uK v1 v2 n (nI o) (nI k) μ = some (nI (uo μ o k), μ) := by
  induction o using Nat.strongRecOn with
  | ind o ih =>
    intro n k h1 h2 hk hn
    obtain ⟨n, rfl⟩ : ∃ q, n = q + 1 := ⟨n - 1, by omega⟩
    obtain ⟨l1, l2, h3⟩ := hT o h1 h2
    rw [LX1_unitOf_5]
    have hin : vp_in (nI o) 4096 := vp_in_nI (by omega) (by omega)
    have hcl : (nI o).toNatClampNeg = o := nI_clamp (by omega)
    simp only [nmd_v, ck_t hin, hcl]
    rcases h3 with ⟨e, e5⟩ | ⟨e, t, s, e1, e2, e3, e4, e5⟩ | ⟨e, t1, t2, e1, e2, e3, e4, e5, e6, e7, e8, e9⟩
    · rw [cIf_t (by rw [e]; decide), uo_0 e]
      unfold uK
      simp only [nmd_v, ck_t hin, hcl]
      rw [l1, nI1l, pk_sub (by omega), pk_sub (by omega), show (16 : Int32) * nI (mlen μ o - 1 - k) = nI (16 * (mlen μ o - 1 - k)) from pk_mul 16 _, u0_eq]
    · have hl := (hT t e3 (by omega)).2.1
      rw [cIf_f (by rw [e]; decide), cIf_t e, e1, e2, nI_add, ih t e4 n (k + s) e3 (by omega) (by omega) (by omega), uo_1 hM hT h1 h2 e e1 e2 e3 e4 (by omega)]
    · have hin1 : vp_in (nI t1) 4096 := vp_in_nI (by omega) (by omega)
      have hcl1 : (nI t1).toNatClampNeg = t1 := nI_clamp (by omega)
      obtain ⟨m1, m2, -⟩ := hT t1 e3 (by omega)
      rw [cIf_f (by rw [e]; decide), cIf_f (by rw [e]; decide), e1, e2]
      rw [ck_t hin1, hcl1, m1, uo_2 hM hT h1 h2 e e1 e2 e3 e4 e5 e6]
      by_cases hc : k < mlen μ t1
      · rw [cIf_f (nI_ge hc (by omega)), if_pos hc, ih t1 e4 n k e3 (by omega) hc (by omega)]
      · rw [cIf_t (nI_le (by omega) (by omega)), if_neg hc, pk_sub (by omega), ih t2 e6 n _ e5 (by omega) (by omega) (by omega), ck_t hin1]
theorem P_unitOf' {F : Nat} {μ : mS} {M : Nat} (hF : 4100 < F) (hM : M ≤ 4000) (hT : MT μ M) {o k : Nat} (h1 : 1 ≤ o) (h2 : o < M) (hk : k < mlen μ o) : fX1_unitOf F μ (nI o) (nI k) = some (nI (uo μ o k), μ) := P_unitOf hM hT _ _ o F k h1 h2 hk (by omega)
