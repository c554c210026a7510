/-! units of flat texts -/
theorem half2 (k : Nat) (hk : k < 2 ^ 31) : nI k / 2 = nI (k / 2) := by rw [nI2l]; exact pk_div hk (by omega) (by omega)
theorem rem2 (k : Nat) (hk : k < 2 ^ 31) : nI k - nI k / 2 * 2 = nI (k % 2) := by rw [nI2l]; exact pk_rem hk (by omega) (by omega)
theorem un_lt (f : Nat → Int32) (a k : Nat) : un f a k < 65536 := by unfold un; omega
theorem P_unitAt {F : Nat} {σ : oS} {a k : Nat} (h : a + 4 + k / 2 < o_lw σ) (hb : o_lw σ ≤ 1048576) (hk : k < 2 ^ 30) : fX0_unitAt F σ (nI a) (nI k) = some (nI (un (o_fw σ) a k), σ) := by
  unfold fX0_unitAt
  rw [rem2 k (by omega), half2 k (by omega), nI_p4, nI_add, ck_t (vp_in_nI h (by omega)), nI_clamp (by omega), nmd_v, show (16 : Int32) * nI (k % 2) = nI (16 * (k % 2)) from pk_mul 16 _, pk_and _ 16 (by decide)]
  unfold un
  rcases Nat.mod_two_eq_zero_or_one k with e | e
  · rw [e, pk_ushr _ (nI (16 * 0)) 0 (by decide)]
  · rw [e, pk_ushr _ (nI (16 * 1)) 16 (by decide)]
/-- the word with a unit put into its empty half -/
def uput (w : Int32) (k u : Nat) : Int32 := w ||| (nI u <<< ((nI (16 * (k % 2))) &&& 31))
theorem or_lo {h u : Nat} (hu : u < 2 ^ 16) : h * 2 ^ 16 ||| u = h * 2 ^ 16 + u := by rw [Nat.mul_comm, ← Nat.two_pow_add_eq_or_of_lt hu h]
theorem uput_tn {w : Int32} {k u : Nat} (hu : u < 65536) (h0 : w.toBitVec.toNat / 2 ^ (16 * (k % 2)) % 65536 = 0) : (uput w k u).toBitVec.toNat = w.toBitVec.toNat + u * 2 ^ (16 * (k % 2)) := by
  unfold uput
  have hw := w.toBitVec.isLt
  rw [Int32.toBitVec_or, BitVec.toNat_or]
  rcases Nat.mod_two_eq_zero_or_one k with e | e
  · rw [e] at h0 ⊢
    rw [pk_shl (nI u) _ 0 (by decide), pk_tn (by omega)]
    have e1 : u * 2 ^ 0 % 2 ^ 32 = u := by omega
    have e2 : w.toBitVec.toNat = w.toBitVec.toNat / 2 ^ 16 * 2 ^ 16 := by omega
    rw [e1, e2, or_lo (by omega)]
    omega
  · rw [e] at h0 ⊢
    rw [pk_shl (nI u) _ 16 (by decide), pk_tn (by omega)]
    have e1 : u * 2 ^ 16 % 2 ^ 32 = u * 2 ^ 16 := by omega
    rw [e1, or_add (by omega)]
theorem P_putUnit {F : Nat} {σ : oS} {a k u : Nat} (h : a + 4 + k / 2 < o_lw σ) (hb : o_lw σ ≤ 1048576) (hk : k < 2 ^ 30) : fX0_putUnit F σ (nI a) (nI k) (nI u) = some (o_s_fw σ (upd (o_fw σ) (a + 4 + k / 2) (uput (o_fw σ (a + 4 + k / 2)) k u))) := by
  unfold fX0_putUnit
  rw [rem2 k (by omega), half2 k (by omega), nI_p4, nI_add, ck_t (vp_in_nI h (by omega)), nI_clamp (by omega), nmd_v, ck_t (vp_in_nI h (by omega)), nmd_v, show (16 : Int32) * nI (k % 2) = nI (16 * (k % 2)) from pk_mul 16 _]
  rfl
theorem un_put {f : Nat → Int32} {a k u : Nat} (hu : u < 65536) (h0 : un f a k = 0) (j : Nat) : un (upd f (a + 4 + k / 2) (uput (f (a + 4 + k / 2)) k u)) a j = if j = k then u else un f a j := by
  unfold un at h0 ⊢
  by_cases hj : j / 2 = k / 2
  · rw [hj, pk_us, uput_tn hu h0]
    have hw := (f (a + 4 + k / 2)).toBitVec.isLt
    generalize (f (a + 4 + k / 2)).toBitVec.toNat = w at *
    rcases Nat.mod_two_eq_zero_or_one k with e | e <;> rcases Nat.mod_two_eq_zero_or_one j with e' | e'
    · have : j = k := by omega
      rw [if_pos this, e, e']; rw [e] at h0; omega
    · have : j ≠ k := by omega
      rw [if_neg this, e, e']; rw [e] at h0; omega
    · have : j ≠ k := by omega
      rw [if_neg this, e, e']; rw [e] at h0; omega
    · have : j = k := by omega
      rw [if_pos this, e, e']; rw [e] at h0; omega
  · rw [pk_un (by omega), if_neg (fun q => hj (by rw [q]))]
/-- units are copied from one flat text to a later one -/
theorem P_copyU {F : Nat} {K : Int32 → oS → Option oS} {a b W frm to pos : Nat} (hab : a + (to + 1) / 2 ≤ b) (hto : to ≤ 4000) (hW : pos + (to - frm) ≤ 2 * W) (k : Nat) : ∀ (n i : Nat) (σ : oS), i + k = to → k < n → frm ≤ i → b + 4 + W ≤ o_lw σ → o_lw σ ≤ 1048576 → (∀ j, pos + (i - frm) ≤ j → j < pos + (to - frm) → un (o_fw σ) b j = 0) →
    ∃ g, LX0_copyUnits_3 F K (nI a) (nI frm) (nI to) (nI b) (nI pos) n (nI i) σ = K (nI to) (o_s_fw σ g) ∧ (∀ x, x < b + 4 ∨ b + 4 + W ≤ x → g x = o_fw σ x) ∧ ∀ j, un g b j = if pos + (i - frm) ≤ j ∧ j < pos + (to - frm) then un (o_fw σ) a (frm + (j - pos)) else un (o_fw σ) b j := by
  induction k with
  | zero =>
    intro n i σ hi hn hf hl hb h0
    obtain ⟨n, rfl⟩ : ∃ m, n = m + 1 := ⟨n - 1, by omega⟩
    have e : i = to := by omega
    subst e
    refine ⟨o_fw σ, ?_, fun _ _ => rfl, fun j => ?_⟩
    · rw [LX0_copyUnits_3, cIf_t (nI_le (Nat.le_refl _) (by omega))]
      rfl
    · rw [if_neg (by omega)]
  | succ k ih =>
    intro n i σ hi hn hf hl hb h0
    obtain ⟨n, rfl⟩ : ∃ m, n = m + 1 := ⟨n - 1, by omega⟩
    have hu := un_lt (o_fw σ) a i
    have hz := h0 (pos + (i - frm)) (Nat.le_refl _) (by omega)
    have hput := un_put hu hz
    generalize hσ1 : upd (o_fw σ) (b + 4 + (pos + (i - frm)) / 2) (uput (o_fw σ (b + 4 + (pos + (i - frm)) / 2)) (pos + (i - frm)) (un (o_fw σ) a i)) = f1 at hput
    have hout : ∀ x, x < b + 4 ∨ b + 4 + W ≤ x → f1 x = o_fw σ x := fun x hx => by rw [← hσ1]; exact pk_un (by omega)
    have hsrc : ∀ j, j < to → un f1 a j = un (o_fw σ) a j := fun j hj => by
      unfold un
      rw [hout _ (by omega)]
    obtain ⟨g, g1, g2, g3⟩ := ih n (i + 1) (o_s_fw σ f1) (by omega) (by omega) (by omega) hl hb (fun j h1 h2 => by
      show un f1 b j = 0
      rw [hput j, if_neg (by omega)]
      exact h0 j (by omega) h2)
    refine ⟨g, ?_, fun x hx => (g2 x hx).trans (hout x hx), fun j => ?_⟩
    · rw [LX0_copyUnits_3, cIf_f (nI_ge (by omega) (by omega)), P_unitAt (by omega) hb (by omega), bnd_s, nI_add, pk_sub (by omega), show pos + i - frm = pos + (i - frm) by omega, P_putUnit (by omega) hb (by omega), bnp_s, nmd_v, nI_1, hσ1, g1]
      rfl
    · rw [g3 j]
      show (if pos + (i + 1 - frm) ≤ j ∧ j < pos + (to - frm) then un f1 a (frm + (j - pos)) else un f1 b j) = _
      by_cases c1 : pos + (i + 1 - frm) ≤ j ∧ j < pos + (to - frm)
      · rw [if_pos c1, if_pos (by omega)]
        exact hsrc _ (by omega)
      · rw [if_neg c1, hput j]
        by_cases c2 : j = pos + (i - frm)
        · rw [if_pos c2, if_pos (by omega)]
          congr 1
          omega
        · rw [if_neg c2, if_neg (by omega)]
theorem P_copyUnits {F : Nat} {σ : oS} {a b W frm to pos : Nat} (hF : 4100 < F) (hft : frm ≤ to) (hab : a + (to + 1) / 2 ≤ b) (hto : to ≤ 4000) (hW : pos + (to - frm) ≤ 2 * W) (hl : b + 4 + W ≤ o_lw σ) (hb : o_lw σ ≤ 1048576) (h0 : ∀ j, pos ≤ j → j < pos + (to - frm) → un (o_fw σ) b j = 0) :
    ∃ g, fX0_copyUnits F σ (nI a) (nI frm) (nI to) (nI b) (nI pos) = some (o_s_fw σ g) ∧ (∀ x, x < b + 4 ∨ b + 4 + W ≤ x → g x = o_fw σ x) ∧ ∀ j, un g b j = if pos ≤ j ∧ j < pos + (to - frm) then un (o_fw σ) a (frm + (j - pos)) else un (o_fw σ) b j := by
  obtain ⟨g, g1, g2, g3⟩ := P_copyU (F := F) (K := fun _ σ7 => some σ7) hab hto hW (to - frm) F frm σ (by omega) (by omega) (Nat.le_refl _) hl hb (fun j h1 h2 => h0 j (by omega) h2)
  refine ⟨g, g1, g2, fun j => ?_⟩
  rw [g3 j, Nat.sub_self, Nat.add_zero]
/-- what text puts is what the reference reads -/
theorem u0_put (x : Int64) {n k : Nat} (hn : n ≤ 4) (hk : k < n) : ((x.toUInt64 >>> ((nI (16 * (n - 1 - k))).toInt64.toUInt64 &&& Int64.toUInt64 63)).toInt64).toInt32 &&& 65535 = nI (u0 x n k) := by
  unfold u0
  rw [and16_nI, nI_clamp (by omega), pk_and _ 16 (by decide), l2i_tn]
  have hx := x.toBitVec.isLt
  have hs : ∀ b : Nat, b ≤ 3 → (x >>> ((nI (16 * b)).toInt64 &&& 63)).toBitVec.toNat % 65536 = x.toBitVec.toNat / 2 ^ (16 * b) % 65536 ∧ (x.toUInt64 >>> ((nI (16 * b)).toInt64.toUInt64 &&& Int64.toUInt64 63)).toInt64.toBitVec.toNat = x.toBitVec.toNat / 2 ^ (16 * b) := by
    intro b hb
    have key : ∀ (s : Int64) (m : Nat), (s.toBitVec.smod 64).toNat = m → m ≤ 48 → (m = 0 ∨ m = 16 ∨ m = 32 ∨ m = 48) → (x >>> s).toBitVec.toNat % 65536 = x.toBitVec.toNat / 2 ^ m % 65536 := by
      intro s m h1 h2 h3
      have e : (x >>> s).toBitVec.toInt = x.toBitVec.toInt / 2 ^ m := by
        show (x.toBitVec.sshiftRight (s.toBitVec.smod 64).toNat).toInt = _
        rw [h1, BitVec.toInt_sshiftRight, Int.shiftRight_eq_div_pow]
        rfl
      have h4 := BitVec.toInt_eq_toNat_cond (x >>> s).toBitVec
      have h5 := BitVec.toInt_eq_toNat_cond x.toBitVec
      have h6 := (x >>> s).toBitVec.isLt
      rw [e, h5] at h4
      generalize (x >>> s).toBitVec.toNat = y at *
      generalize x.toBitVec.toNat = z at *
      rcases h3 with rfl | rfl | rfl | rfl <;> (split at h4 <;> split at h4 <;> omega)
    have hb' : b = 0 ∨ b = 1 ∨ b = 2 ∨ b = 3 := by omega
    rcases hb' with rfl | rfl | rfl | rfl
    · exact ⟨key _ 0 (by decide) (by omega) (by omega), lu_shr _ _ 0 (by decide)⟩
    · exact ⟨key _ 16 (by decide) (by omega) (by omega), lu_shr _ _ 16 (by decide)⟩
    · exact ⟨key _ 32 (by decide) (by omega) (by omega), lu_shr _ _ 32 (by decide)⟩
    · exact ⟨key _ 48 (by decide) (by omega) (by omega), lu_shr _ _ 48 (by decide)⟩
  obtain ⟨h1, h2⟩ := hs (n - 1 - k) (by omega)
  rw [h1, h2]
  congr 1
  omega
