/-! the pictures in natural numbers: the class's small readers -/
theorem nI_p0 (a : Nat) : nI a + 0 = nI a := by rw [← nI_0, nI_add]; rfl
theorem nI_p1 (a : Nat) : nI a + 1 = nI (a + 1) := nI_1 a
theorem nI_p2 (a : Nat) : nI a + 2 = nI (a + 2) := nI_add a 2
theorem nI_p3 (a : Nat) : nI a + 3 = nI (a + 3) := nI_add a 3
theorem nI_p4 (a : Nat) : nI a + 4 = nI (a + 4) := nI_add a 4
theorem nI_2m (a : Nat) : 2 * nI a = nI (2 * a) := pk_mul 2 a
theorem nI_nm1 {a : Nat} (h : a < 2 ^ 31) : ¬ nI a = (-1) := by
  intro q
  have h1 := congrArg Int32.toInt q
  rw [nI_toInt h] at h1
  have h2 : ((-1 : Int32)).toInt = -1 := by decide
  omega
theorem nI_inj {a b : Nat} (ha : a < 2 ^ 31) (hb : b < 2 ^ 31) (h : nI a = nI b) : a = b := (nI_eq ha hb).mp h
def wN (f : Nat → Int32) (a : Nat) : Nat := (f a).toNatClampNeg
/-- a word that is a number below 2^30 -/
def okW (f : Nat → Int32) (a : Nat) : Prop := f a = nI (wN f a) ∧ wN f a < 2 ^ 30
def kd (f : Nat → Int32) (a : Nat) : Nat := wN f a % 16
def lk (f : Nat → Int32) (a : Nat) : Nat := wN f a / 16 % 16
def vl (f : Nat → Int32) (a : Nat) : Nat := wN f a / 256 % 16
def sz (f : Nat → Int32) (a : Nat) : Nat := wN f a / 4096
theorem wN_of {f : Nat → Int32} {a n : Nat} (h : f a = nI n) (hn : n < 2 ^ 31) : wN f a = n := by unfold wN; rw [h, nI_clamp hn]
theorem okW_of {f : Nat → Int32} {a n : Nat} (h : f a = nI n) (hn : n < 2 ^ 30) : okW f a := by
  have e := wN_of h (by omega)
  exact ⟨by rw [e]; exact h, by rw [e]; exact hn⟩
section PR
variable {F : Nat} {σ : oS} {a : Nat}
theorem P_kindAt (ha : a < o_lw σ) (hb : o_lw σ ≤ 1048576) (hk : okW (o_fw σ) a) : fX0_kindAt F σ (nI a) = some (nI (kd (o_fw σ) a), σ) := by
  unfold fX0_kindAt
  rw [cIf_f (nI_nm1 (by omega)), nI_p0, ck_t (vp_in_nI ha (by omega)), nI_clamp (by omega)]
  show some ((o_fw σ a &&& 15), σ) = _
  rw [hk.1, pk_andN (by have := hk.2; omega) (m := 15) 4 (by decide)]
  rfl
theorem P_kindAt0 : fX0_kindAt F σ (-1) = some (0, σ) := by
  unfold fX0_kindAt
  rw [cIf_t rfl]
theorem P_linksAt (ha : a < o_lw σ) (hb : o_lw σ ≤ 1048576) (hk : okW (o_fw σ) a) : fX0_linksAt F σ (nI a) = some (nI (lk (o_fw σ) a), σ) := by
  unfold fX0_linksAt
  rw [nI_p0, ck_t (vp_in_nI ha (by omega)), nI_clamp (by omega)]
  show some (((o_fw σ a >>> ((4 : Int32) &&& 31)) &&& 15), σ) = _
  have h2 := hk.2
  have h3 : wN (o_fw σ) a / 2 ^ 4 ≤ wN (o_fw σ) a := Nat.div_le_self _ _
  rw [hk.1, pk_shrN (by omega) _ 4 (by decide), pk_andN (by omega) (m := 15) 4 (by decide)]
  rfl
theorem P_valuesAt (ha : a < o_lw σ) (hb : o_lw σ ≤ 1048576) (hk : okW (o_fw σ) a) : fX0_valuesAt F σ (nI a) = some (nI (vl (o_fw σ) a), σ) := by
  unfold fX0_valuesAt
  rw [nI_p0, ck_t (vp_in_nI ha (by omega)), nI_clamp (by omega)]
  show some (((o_fw σ a >>> ((8 : Int32) &&& 31)) &&& 15), σ) = _
  have h2 := hk.2
  have h3 : wN (o_fw σ) a / 2 ^ 8 ≤ wN (o_fw σ) a := Nat.div_le_self _ _
  rw [hk.1, pk_shrN (by omega) _ 8 (by decide), pk_andN (by omega) (m := 15) 4 (by decide)]
  rfl
theorem P_sizeAt (ha : a < o_lw σ) (hb : o_lw σ ≤ 1048576) (hk : okW (o_fw σ) a) : fX0_sizeAt F σ (nI a) = some (nI (sz (o_fw σ) a), σ) := by
  unfold fX0_sizeAt
  rw [nI_p0, ck_t (vp_in_nI ha (by omega)), nI_clamp (by omega)]
  show some ((o_fw σ a >>> ((12 : Int32) &&& 31)), σ) = _
  have h2 := hk.2
  rw [hk.1, pk_shrN (by omega) _ 12 (by decide)]
  rfl
/-- a word is a reference's high one -/
def isR (x : Int32) : Prop := (x.toUInt32 >>> ((16 : Int32).toUInt32 &&& Int32.toUInt32 31)).toInt32 = 65530
theorem P_isReference_t {x : Int32} (h : isR x) : fX0_isReference F x = some 1 := by
  unfold fX0_isReference
  exact cIf_t h
theorem P_isReference_f {x : Int32} (h : ¬ isR x) : fX0_isReference F x = some 0 := by
  unfold fX0_isReference
  exact cIf_f h
/-- the row of words with one of them changed -/
def stw (σ : oS) (x : Nat) (v : Int32) : oS := o_s_fw σ (upd (o_fw σ) x v)
theorem P_touch0 {b : Int32} : fX0_touch F σ (-1) b = some (-1, σ) := by
  unfold fX0_touch
  rw [cIf_t rfl]
theorem P_touch_move (ha : a + 1 < o_lw σ) (hb : o_lw σ ≤ 1048576) : fX0_touch F σ (nI a) 1 = some (o_fw σ (a + 1), σ) := by
  unfold fX0_touch
  rw [cIf_f (nI_nm1 (by omega)), cIf_f (by decide), nI_p1, ck_t (vp_in_nI ha (by omega)), nI_clamp (by omega)]
  rfl
theorem P_touch_old (ha : a + 1 < o_lw σ) (hb : o_lw σ ≤ 1048576) (hm : ¬ o_fw σ (a + 1) = (-1)) : fX0_touch F σ (nI a) 0 = some (nI a, σ) := by
  unfold fX0_touch
  rw [cIf_f (nI_nm1 (by omega)), cIf_t rfl, nI_p1, ck_t (vp_in_nI ha (by omega)), nI_clamp (by omega)]
  show cIf (o_fw σ (a + 1) = (-1)) _ _ = _
  rw [cIf_f hm]
/-- a lead is found for the first time: marked, and put ahead of the chain -/
def mark (σ : oS) (a : Nat) : oS := o_s_wt (stw (stw σ (a + 1) (nI a)) (a + 2) (o_wt σ)) (nI a)
theorem P_touch_new (ha : a + 2 < o_lw σ) (hb : o_lw σ ≤ 1048576) (hm : o_fw σ (a + 1) = (-1)) : fX0_touch F σ (nI a) 0 = some (nI a, mark σ a) := by
  unfold fX0_touch
  have i1 := vp_in_nI (n := a + 1) (N := o_lw σ) (by omega) (by omega)
  have i2 := vp_in_nI (n := a + 2) (N := o_lw σ) (by omega) (by omega)
  rw [cIf_f (nI_nm1 (by omega)), cIf_t rfl, nI_p1, nI_p2, ck_t i1, nI_clamp (by omega)]
  show cIf (o_fw σ (a + 1) = (-1)) _ _ = _
  rw [cIf_t hm, ck_t i1]
  show ck (vp_in (nI (a + 2)) (o_lw σ)) _ = _
  rw [ck_t i2, nI_clamp (by omega)]
  rfl
end PR
