/-! an object of the class and one of the reference are alike -/
def PtR (R : Nat → Nat → Prop) (x y : Int32) : Prop := (x = -1 ∧ y = 0) ∨ ∃ a o, x = nI a ∧ y = nI o ∧ R a o
/-- two words are a number's bits -/
def cat (hi lo : Int32) : Int64 := (hi.toInt64 <<< ((32 : Int32).toInt64 &&& 63)) ||| (lo.toInt64 &&& 4294967295)
def VlR (R : Nat → Nat → Prop) (hi lo rf : Int32) (nb : Int64) : Prop := (isR hi ∧ ∃ a o, lo = nI a ∧ rf = nI o ∧ R a o) ∨ (¬ isR hi ∧ rf = 0 ∧ nb = cat hi lo)
/-- unit k of a flat text -/
def un (f : Nat → Int32) (a k : Nat) : Nat := (f (a + 4 + k / 2)).toBitVec.toNat / 2 ^ (16 * (k % 2)) % 65536
/-- unit k of n, out of the reference's long -/
def u0 (x : Int64) (n k : Nat) : Nat := (((x >>> ((nI (16 * (n - 1 - k))).toInt64 &&& 63)) &&& 65535).toInt32).toNatClampNeg
/-- a text's units in the reference, by what it was made of -/
def uoF (μ : mS) : Nat → Nat → Nat → Nat
  | 0, _, _ => 0
  | n + 1, o, k =>
    if m_madeOf μ o = 1 then uoF μ n (m_a μ o).toNatClampNeg (k + (m_b μ o).toNatClampNeg)
    else if m_madeOf μ o = 2 then
      (if k < (m_length μ (m_a μ o).toNatClampNeg).toNatClampNeg then uoF μ n (m_a μ o).toNatClampNeg k
       else uoF μ n (m_b μ o).toNatClampNeg (k - (m_length μ (m_a μ o).toNatClampNeg).toNatClampNeg))
    else u0 (m_units μ o) (m_length μ o).toNatClampNeg k
def uo (μ : mS) (o k : Nat) : Nat := uoF μ (o + 1) o k
def ObB (f : Nat → Int32) (μ : mS) (R : Nat → Nat → Prop) (a o : Nat) : Prop :=
  kd f a = 1 ∧ lk f a ≤ 8 ∧ vl f a ≤ 8 ∧ sz f a ≤ 3 + lk f a + 2 * vl f a + 16 ∧ m_links μ o = nI (lk f a) ∧ m_values μ o = nI (vl f a) ∧ m_plain μ o = nI (sz f a - (3 + lk f a + 2 * vl f a)) ∧
  (∀ i, i < lk f a → PtR R (f (a + 3 + i)) (m_link μ (8 * o + i))) ∧
  (∀ j, j < vl f a → VlR R (f (a + 3 + lk f a + 2 * j)) (f (a + 3 + lk f a + 2 * j + 1)) (m_refers μ (8 * o + j)) (m_number μ (8 * o + j))) ∧
  (∀ i, 3 + lk f a + 2 * vl f a + i < sz f a → f (a + (3 + lk f a + 2 * vl f a + i)) = m_word μ (16 * o + i)) ∧ m_length μ o = 0
def ObT (f : Nat → Int32) (μ : mS) (R : Nat → Nat → Prop) (a o : Nat) : Prop :=
  vl f a = 0 ∧ m_links μ o = 0 ∧ m_values μ o = 0 ∧ ∃ n, n ≤ 4000 ∧ m_length μ o = nI n ∧ f (a + 3 + lk f a) = nI n ∧
  (((kd f a = 2 ∨ kd f a = 5) ∧ lk f a = 0 ∧ sz f a = 4 + (n + 1) / 2 ∧ (∀ k, k < n → un f a k = uo μ o k) ∧ (n % 2 = 1 → un f a n = 0)) ∨
   (kd f a = 3 ∧ lk f a = 2 ∧ sz f a = 6 ∧ 24 < n ∧ m_madeOf μ o = 2 ∧ (∃ a1 o1, f (a + 3) = nI a1 ∧ m_a μ o = nI o1 ∧ R a1 o1) ∧ ∃ a2 o2, f (a + 4) = nI a2 ∧ m_b μ o = nI o2 ∧ R a2 o2) ∨
   (kd f a = 4 ∧ lk f a = 2 ∧ sz f a = 6 ∧ 24 < n ∧ (∃ a1 o1, f (a + 3) = nI a1 ∧ m_spread μ o = nI o1 ∧ R a1 o1 ∧ m_kind μ o1 = 2 ∧ m_length μ o1 = nI n ∧ ∀ k, k < n → uo μ o1 k = uo μ o k) ∧ f (a + 4) = -1))
def ObR (f : Nat → Int32) (μ : mS) (R : Nat → Nat → Prop) (a o : Nat) : Prop := m_kind μ o = nI (kd f a) ∧ (ObB f μ R a o ∨ ObT f μ R a o)
/-- leads keep being alike when their objects move -/
theorem ObR_move {f f' : Nat → Int32} {μ : mS} {R R' : Nat → Nat → Prop} {ψ : Nat → Nat} {a o : Nat} (ho : okO f a) (hc : cnt f f' ψ a) (hb : ∀ b p, R b p → b < 2 ^ 31) (hR : ∀ b p, chd f a (nI b) → R b p → R' (ψ b) p) (h : ObR f μ R a o) : ObR f' μ R' (ψ a) o := by
  obtain ⟨c1, c2, c3, c4, c5⟩ := hc
  obtain ⟨hk, h⟩ := h
  have hsz := ho.2
  refine ⟨by rw [kd_at c1]; exact hk, ?_⟩
  have pt : ∀ x y, chd f a x → PtR R x y → PtR R' (px ψ x) y := fun x y hx h => by
    rcases h with ⟨e1, e2⟩ | ⟨b, p, e1, e2, h⟩
    · rw [e1, px_0]; exact Or.inl ⟨rfl, e2⟩
    · rw [e1, px_n (hb b p h)]
      exact Or.inr ⟨ψ b, p, rfl, e2, hR b p (e1 ▸ hx) h⟩
  rcases h with h | h
  · obtain ⟨h1, h2, h3, h4, h5, h6, h7, h8, h9, h10⟩ := h
    refine Or.inl ⟨by rw [kd_at c1]; exact h1, by rw [lk_at c1]; exact h2, by rw [vl_at c1]; exact h3, by rw [lk_at c1, vl_at c1, sz_at c1]; exact h4, by rw [lk_at c1]; exact h5, by rw [vl_at c1]; exact h6, by rw [lk_at c1, vl_at c1, sz_at c1]; exact h7, ?_, ?_, ?_, h10.2⟩
    · rw [lk_at c1]
      intro i hi
      rw [c3 i hi]
      exact pt _ _ (Or.inl ⟨i, hi, rfl⟩) (h8 i hi)
    · rw [lk_at c1, vl_at c1]
      intro j hj
      obtain ⟨s1, s2, s3⟩ := c4 j hj
      rw [s1]
      rcases h9 j hj with ⟨q1, b, p, q2, q3, q4⟩ | ⟨q1, q2, q3⟩
      · refine Or.inl ⟨q1, ψ b, p, ?_, q3, hR b p (Or.inr ⟨j, hj, q1, q2⟩) q4⟩
        rw [s2 q1, q2, px_n (hb b p q4)]
      · rw [s3 q1]
        exact Or.inr ⟨q1, q2, q3⟩
    · rw [lk_at c1, vl_at c1, sz_at c1]
      intro i hi
      rw [c5 _ (by omega) hi]
      exact h10.1 i hi
  · obtain ⟨h1, h2, h3, n, h4, h5, h6, h⟩ := h
    have hlen : ∀ l, lk f a = l → 3 + l < sz f a → f' (ψ a + 3 + l) = f (a + 3 + l) := fun l e hl => by
      have := c5 (3 + l) (by rw [e, h1]; omega) hl
      rw [show ψ a + 3 + l = ψ a + (3 + l) by omega, show a + 3 + l = a + (3 + l) by omega]
      exact this
    refine Or.inr ⟨by rw [vl_at c1]; exact h1, h2, h3, n, h4, h5, ?_, ?_⟩
    · rw [lk_at c1, hlen _ rfl ?_]
      · exact h6
      · rcases h with ⟨_, e1, e2, _⟩ | ⟨_, e1, e2, _⟩ | ⟨_, e1, e2, _⟩ <;> omega
    · rcases h with ⟨q1, q2, q3, q4, q5⟩ | ⟨q1, q2, q3, q4, q5, ⟨a1, o1, r1, r2, r3⟩, a2, o2, t1, t2, t3⟩ | ⟨q1, q2, q3, q4, ⟨a1, o1, r1, r2, r3, r4⟩, t1⟩
      · have hun : ∀ k, 4 + k / 2 < sz f a → un f' (ψ a) k = un f a k := fun k hk2 => by
          unfold un
          have := c5 (4 + k / 2) (by omega) hk2
          rw [show ψ a + 4 + k / 2 = ψ a + (4 + k / 2) by omega, show a + 4 + k / 2 = a + (4 + k / 2) by omega, this]
        refine Or.inl ⟨by rw [kd_at c1]; exact q1, by rw [lk_at c1]; exact q2, by rw [sz_at c1]; exact q3, fun k hk2 => ?_, fun hn => ?_⟩
        · rw [hun k (by omega)]; exact q4 k hk2
        · rw [hun n (by omega)]; exact q5 hn
      · refine Or.inr (Or.inl ⟨by rw [kd_at c1]; exact q1, by rw [lk_at c1]; exact q2, by rw [sz_at c1]; exact q3, q4, q5, ⟨ψ a1, o1, ?_, r2, hR a1 o1 (Or.inl ⟨0, by omega, r1⟩) r3⟩, ψ a2, o2, ?_, t2, hR a2 o2 (Or.inl ⟨1, by omega, t1⟩) t3⟩)
        · have := c3 0 (by omega)
          rw [Nat.add_zero, Nat.add_zero, r1, px_n (hb a1 o1 r3)] at this
          exact this
        · have := c3 1 (by omega)
          rw [show ψ a + 3 + 1 = ψ a + 4 by omega, show a + 3 + 1 = a + 4 by omega, t1, px_n (hb a2 o2 t3)] at this
          exact this
      · refine Or.inr (Or.inr ⟨by rw [kd_at c1]; exact q1, by rw [lk_at c1]; exact q2, by rw [sz_at c1]; exact q3, q4, ⟨ψ a1, o1, ?_, r2, hR a1 o1 (Or.inl ⟨0, by omega, r1⟩) r3, r4⟩, ?_⟩)
        · have := c3 0 (by omega)
          rw [Nat.add_zero, Nat.add_zero, r1, px_n (hb a1 o1 r3)] at this
          exact this
        · have := c3 1 (by omega)
          rw [show ψ a + 3 + 1 = ψ a + 4 by omega, show a + 3 + 1 = a + 4 by omega, t1, px_0] at this
          exact this
