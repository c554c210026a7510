/-! names: what is looked up, and how a row of names grows -/
/-- the names behind a collection are names before it -/
def NS (f f1 : Nat → Int32) (nl nl1 : List Nat) : Prop := ∀ y ∈ nl1, ∃ x ∈ nl, f1 (y + 3) = f (x + 3) ∧ ∀ k, k < (f (x + 3)).toNatClampNeg → un f1 y k = un f x k
theorem NS.rf {f : Nat → Int32} {nl : List Nat} : NS f f nl nl := fun y hy => ⟨y, hy, rfl, fun _ _ => rfl⟩
theorem GC_NS {σ σ' : oS} {μ : mS} {os nl : List Nat} {U M : Nat} {R : Nat → Nat → Prop} {mb : Nat → Bool} (hS : Sim σ μ os U nl M R) (hGC : GC σ os nl mb σ') : NS (o_fw σ) (o_fw σ') nl ((nl.filter mb).map (psi (sz (o_fw σ)) mb os 0)) := by
  obtain ⟨⟨hG, hQ, hu, hN, hnk, hnd, hnm, hds, -⟩, -⟩ := hS
  obtain ⟨gR, -, gu, gr, gc, gn⟩ := hGC
  intro y hy
  obtain ⟨x, hx, e⟩ := List.mem_map.mp hy
  obtain ⟨h1, h2⟩ := List.mem_filter.mp hx
  subst e
  have hc := gc x ((hnk x).mp h1).1 h2
  obtain ⟨n0, n1, n, n2, n3, n4, n5⟩ := hnm x h1
  refine ⟨x, h1, len_move hc n0 n1 (by omega), fun k hk => ?_⟩
  rw [n3, nI_clamp (by omega)] at hk
  exact un_move hc n0 n1 (by omega)
theorem P_makeN {F : Nat} {σ : oS} {μ : mS} {os nl : List Nat} {U M : Nat} {R : Nat → Nat → Prop} (hF : 1048600 < F) (hS : Sim σ μ os U nl M R) {k l v p s L : Nat} (hk : k < 16) (hl : l < 16) (hv : v < 16) (hs : s = 3 + l + 2 * v + p) (hs2 : s < 4096) (hL : o_lim σ = nI L) (hLb : L ≤ 1048576) :
    ∃ σ1 os1 U1 nl1 R1, Sim σ1 μ os1 U1 nl1 M R1 ∧ NS (o_fw σ) (o_fw σ1) nl nl1 ∧ o_lim σ1 = nI L ∧ pot σ1 = pot σ ∧
      ((L < Tk σ os + s ∧ fX0_make F σ (nI k) (nI l) (nI v) (nI p) = some (.inl 2, σ1, 1, 6)) ∨
       (Tk σ os + s ≤ L ∧ ∃ σ2 C N, fX0_make F σ (nI k) (nI l) (nI v) (nI p) = some (.inr (nI U1), σ2, C, N) ∧ Mk σ1 σ2 U1 k l v s ∧ C ≤ 1 ∧ N + pot σ1 ≤ pot σ2)) := by
  obtain ⟨⟨hG, hQ, hu, hN, hnk, hnd, hnm, hds, ⟨L', l1, l2, l3, l4, l5⟩, st, d1, d2⟩, hMI, hR1, hR2, hR3, hroot, hob, hlim, d, d3, d4⟩ := id hS
  have eL : L = L' := by rw [hL] at l1; exact nI_inj (by omega) (by omega) l1
  subst eL
  obtain ⟨hC, hU, hlw, hPV⟩ := id hG
  have hsz : ((3 : Int32) + nI l) + (2 * nI v) + nI p = nI s := by rw [nI3l, nI_add, nI_2m, nI_add, nI_add, hs]
  have hmkT : ∀ σ' U', o_us σ' = nI U' → U' + s ≤ o_lw σ' → o_lw σ' ≤ L → ∃ σ2, mkT F σ' (nI k) (nI l) (nI v) (nI s) = some (.inr (nI U'), σ2, 0, 0) ∧ EqO σ2 σ' ∧ o_us σ2 = nI (U' + s) ∧ o_md σ2 = o_md σ' + 1 ∧ o_lw σ2 = o_lw σ' ∧ NewO (o_fw σ') (o_fw σ2) U' k l v s := fun σ' U' h1 h2 h3 => P_mkT h1 h2 (by omega) hk hl hv hs2 (by omega)
  rw [make_eq, hsz, hu, pk_sub hU]
  by_cases ht : s ≤ o_lw σ - U
  · rw [cIf_t (nI_le ht (by omega))]
    obtain ⟨b, hb⟩ := P_isStressed (F := F) (σ := σ)
    rw [hb, bnd_s]
    by_cases hb0 : b = 0
    · rw [cIf_t hb0, hL, hu, pk_sub (by omega), cIf_t (nI_le (by omega) (by omega))]
      obtain ⟨σ2, m1, m2, m3, m4, m5, m6⟩ := hmkT σ U hu (by omega) l5
      have hT : Tk σ os ≤ U := tot_le os hC (Nat.le_refl 0)
      refine ⟨σ, os, U, nl, R, hS, NS.rf, hL, rfl, Or.inr ⟨by omega, σ2, 0, 0, m1, ⟨m2, m3, m4, by omega, by omega, fun L' q q2 => ?_, m6⟩, by omega, ?_⟩⟩
      · rw [hL] at q
        have := nI_inj (by omega) (by omega) q
        omega
      · rw [pot_eq m2.1 m5 m2.2.2.1]; omega
    · rw [cIf_f hb0]
      obtain ⟨σ1, mb, g1, g2⟩ := P_slide hF hG hQ hu hN (fun a ha => ((hnk a).mp ha).1)
      have hS1 := Sim_GC hS g2
      have hNS := GC_NS hS g2
      obtain ⟨gR, ⟨e1, e2, e3, e4, e5, e6, e7⟩, gu, -⟩ := g2
      rw [Tk_eq gR] at hS1 gu
      have hT : Tk σ os ≤ U := tot_le os hC (Nat.le_refl 0)
      rw [g1, bnp_s, e1, hL, gu, pk_sub (by omega), cIf_t (nI_le (by omega) (by omega))]
      obtain ⟨σ2, m1, m2, m3, m4, m5, m6⟩ := hmkT σ1 _ gu (by omega) (by omega)
      refine ⟨σ1, _, _, _, _, hS1, hNS, e1.trans hL, pot_eq e1 e2 e3, Or.inr ⟨by omega, σ2, 0, 0, m1, ⟨m2, m3, m4, by omega, by omega, fun L' q q2 => ?_, m6⟩, by omega, ?_⟩⟩
      · rw [e1, hL] at q
        have := nI_inj (by omega) (by omega) q
        omega
      · rw [pot_eq m2.1 m5 m2.2.2.1]; omega
  · rw [cIf_f (nI_ge (by omega) (by omega))]
    obtain ⟨σ1, mb, g1, g2⟩ := P_slide hF hG hQ hu hN (fun a ha => ((hnk a).mp ha).1)
    have hS1 := Sim_GC hS g2
    have hNS := GC_NS hS g2
    obtain ⟨gR, ⟨e1, e2, e3, e4, e5, e6, e7⟩, gu, -⟩ := g2
    rw [Tk_eq gR] at hS1 gu
    have hT : Tk σ os ≤ U := tot_le os hC (Nat.le_refl 0)
    rw [g1, bnp_s, e1, hL, gu, pk_sub (by omega)]
    by_cases hf : s ≤ L - Tk σ os
    · rw [cIf_t (nI_le hf (by omega)), nI_add]
      obtain ⟨σ1', C, N, w1, w2, w3, w4, w5, w6, w7, w8, w9, w10⟩ := P_widen (F := F) (σ := σ1) (L := L) (need := Tk σ os + s) hF (e1.trans hL) hLb (by omega) (by omega) (by omega)
      obtain ⟨σ2, m1, m2, m3, m4, m5, m6⟩ := hmkT σ1' _ (w3.trans gu) w7 w6
      refine ⟨σ1, _, _, _, _, hS1, hNS, e1.trans hL, pot_eq e1 e2 e3, Or.inr ⟨by omega, σ2, C + 0, N + 0, ?_, ⟨m2.tr w2, m3, m4.trans (by rw [w4]), by omega, by omega, fun L' q q2 => ?_, ?_⟩, by omega, ?_⟩⟩
      · rw [w1]
        show addC C N (mkT F σ1' (nI k) (nI l) (nI v) (nI s)) = _
        rw [m1]
        rfl
      · rw [e1, hL] at q
        have := nI_inj (by omega) (by omega) q
        omega
      · obtain ⟨n1, n2⟩ := m6
        exact ⟨fun x hx => (n1 x hx).trans (w8 x (by omega)), n2⟩
      · rw [pot_eq m2.1 m5 m2.2.2.1]; omega
    · rw [cIf_f (nI_ge (by omega) (by omega))]
      exact ⟨σ1, _, _, _, _, hS1, hNS, e1.trans hL, pot_eq e1 e2 e3, Or.inl ⟨by omega, rfl⟩⟩
theorem P_makeFlatN {F : Nat} {σ : oS} {μ : mS} {os nl : List Nat} {U M : Nat} {R : Nat → Nat → Prop} (hF : 1048600 < F) (hS : Sim σ μ os U nl M R) {k n s L : Nat} (hk : k < 16) (hn : n ≤ 4000) (hs : s = 4 + (n + 1) / 2) (hL : o_lim σ = nI L) (hLb : L ≤ 1048576) :
    ∃ σ1 os1 U1 nl1 R1, Sim σ1 μ os1 U1 nl1 M R1 ∧ NS (o_fw σ) (o_fw σ1) nl nl1 ∧ o_lim σ1 = nI L ∧ pot σ1 = pot σ ∧
      ((L < Tk σ os + s ∧ fX0_makeFlat F σ (nI k) (nI n) = some (.inl 2, σ1, 1, 6)) ∨
       (Tk σ os + s ≤ L ∧ ∃ σ2 C N, fX0_makeFlat F σ (nI k) (nI n) = some (.inr (nI U1), σ2, C, N) ∧ Ext σ1 σ2 U1 k 0 0 s ∧ o_fw σ2 (U1 + 3) = nI n ∧ (∀ i, 4 ≤ i → i < s → o_fw σ2 (U1 + i) = 0) ∧ C ≤ 1 ∧ N + pot σ1 ≤ pot σ2)) := by
  obtain ⟨σ1, os1, U1, nl1, R1, hS1, hNS, hl1, hp1, hmk⟩ := P_makeN hF hS (k := k) (l := 0) (v := 0) (p := 1 + (n + 1) / 2) (s := s) hk (by omega) (by omega) (by omega) (by omega) hL hLb
  refine ⟨σ1, os1, U1, nl1, R1, hS1, hNS, hl1, hp1, ?_⟩
  have ep : (1 : Int32) + (nI n + 1) / 2 = nI (1 + (n + 1) / 2) := by rw [nI_1, half2 _ (by omega), nI1l, nI_add]
  unfold fX0_makeFlat
  rw [ep]
  rcases hmk with ⟨hf, c1⟩ | ⟨hf, σ2, C, N, c1, c2, c3, c4⟩
  · have c1' : fX0_make F σ (nI k) 0 0 (nI (1 + (n + 1) / 2)) = some (.inl 2, σ1, 1, 6) := c1
    rw [c1', bndX_l]
    exact Or.inl ⟨hf, rfl⟩
  · have c1' : fX0_make F σ (nI k) 0 0 (nI (1 + (n + 1) / 2)) = some (.inr (nI U1), σ2, C, N) := c1
    obtain ⟨E, u1, u2, u3, u4, u5, n1, n2, n3, n4, n5⟩ := id c2
    have hlw := u5 L hl1 hLb
    obtain ⟨r1, r2, r3, r4, r5⟩ := hdr_rd (f := o_fw σ2) (a := U1) (k := k) (l := 0) (v := 0) (s := s) hk (by omega) (by omega) (by omega) n2
    rw [c1']
    refine Or.inr ⟨hf, o_s_fw σ2 (upd (o_fw σ2) (U1 + 3) (nI n)), C + 0, N + 0, bndX_k ?_, c2.ext.put (by omega), pk_us, fun i h1 h2 => (pk_un (by omega)).trans (n5 i (by omega) h2), by omega, ?_⟩
    · unfold fX0_putLength
      rw [P_linksAt (by omega) (by omega) r5, bnd_s, r2, nI_p3, nI_add, Nat.add_zero, ck_t (vp_in_nI (by omega) (by omega)), nI_clamp (by omega), nmd_v, bnp_s]
    · exact c4
theorem tot_add {z : Nat → Nat} {mb : Nat → Bool} {d : Nat} : ∀ (os : List Nat) (e : Nat), tot z mb os (e + d) = tot z mb os e + d
  | [], e => rfl
  | b :: os, e => by
    show tot z mb os (if mb b then e + d + z b else e + d) = tot z mb os (if mb b then e + z b else e) + d
    cases mb b with
    | true =>
      show tot z mb os (e + d + z b) = tot z mb os (e + z b) + d
      rw [show e + d + z b = e + z b + d by omega]
      exact tot_add os _
    | false => exact tot_add os e
/-- what nothing leads to isn't counted -/
theorem tot_skip {f : Nat → Int32} {mb : Nat → Bool} {x : Nat} (hm : mb x = false) : ∀ (os : List Nat) {a u e : Nat}, Ch f a os u → e ≤ a → x ∈ os → tot (sz f) mb os e + sz f x ≤ u
  | [], a, u, e, h, he, hx => absurd hx (by simp)
  | b :: os, a, u, e, h, he, hx => by
    obtain ⟨e1, ho, h⟩ := h
    subst e1
    show tot (sz f) mb os (if mb b then e + sz f b else e) + sz f x ≤ u
    by_cases ex : x = b
    · subst ex
      rw [hm]
      show tot (sz f) mb os e + sz f x ≤ u
      rw [← tot_add]
      exact tot_le os h (by omega)
    · have hx2 : x ∈ os := by
        rcases List.mem_cons.mp hx with q | q
        · exact absurd q ex
        · exact q
      cases mb b with
      | true => exact tot_skip hm os h (by show e + sz f b ≤ _; omega) hx2
      | false => exact tot_skip hm os h (by show e ≤ _; omega) hx2
theorem nl_len {f : Nat → Int32} {os nl : List Nat} {U : Nat} (hC : Ch f 0 os U) (hU : U ≤ 1048576) (hnl : ∀ a ∈ nl, a ∈ os) (hnd : nl.Nodup) : nl.length ≤ 400000 := by
  have h : (nl.map (fun x => x / 3)).Nodup := nd_map nl hnd (fun x hx y hy e => by
    have hx1 := Ch_mem os hC (hnl x hx)
    have hy1 := Ch_mem os hC (hnl y hy)
    have hx3 := okO_3 hx1.2.2
    have hy3 := okO_3 hy1.2.2
    rcases Nat.lt_trichotomy x y with h | h | h
    · have := Ch_sep os hC (hnl x hx) (hnl y hy) h
      omega
    · exact h
    · have := Ch_sep os hC (hnl y hy) (hnl x hx) h
      omega)
  have := nd_len 400000 _ h (fun x hx => by
    obtain ⟨y, hy, e⟩ := List.mem_map.mp hx
    have hy1 := Ch_mem os hC (hnl y hy)
    subst e
    omega)
  rw [List.length_map] at this
  exact this
/-- a flat text or a name -/
def Fx (f : Nat → Int32) (U b m : Nat) : Prop := okO f b ∧ b + sz f b ≤ U ∧ sz f b = 4 + (m + 1) / 2 ∧ f (b + 3) = nI m ∧ lk f b = 0 ∧ m ≤ 4000 ∧ (m % 2 = 1 → un f b m = 0)
theorem word_un {f : Nat → Int32} {x b t : Nat} : f (x + 4 + t) = f (b + 4 + t) ↔ un f x (2 * t) = un f b (2 * t) ∧ un f x (2 * t + 1) = un f b (2 * t + 1) := by
  unfold un
  rw [show 2 * t / 2 = t by omega, show (2 * t + 1) / 2 = t by omega, show 2 * t % 2 = 0 by omega, show (2 * t + 1) % 2 = 1 by omega]
  constructor
  · intro e
    rw [e]
    exact ⟨rfl, rfl⟩
  · rintro ⟨h1, h2⟩
    apply Int32.toBitVec_inj.mp
    apply BitVec.eq_of_toNat_eq
    have w1 := (f (x + 4 + t)).toBitVec.isLt
    have w2 := (f (b + 4 + t)).toBitVec.isLt
    omega
theorem P_sameL {F : Nat} {K : Int32 → oS → Option (Int32 × oS)} {σ : oS} {x b s : Nat} (hx : x + s ≤ o_lw σ) (hb : b + s ≤ o_lw σ) (hl : o_lw σ ≤ 1048576) (k : Nat) : ∀ m i, i + k = s → k < m →
    (LX0_hasSameUnits_24 F K (nI x) (nI b) (nI s) m (nI i) σ = K (nI s) σ ∧ ∀ t, i ≤ t → t < s → o_fw σ (x + t) = o_fw σ (b + t)) ∨ (LX0_hasSameUnits_24 F K (nI x) (nI b) (nI s) m (nI i) σ = some (0, σ) ∧ ∃ t, i ≤ t ∧ t < s ∧ o_fw σ (x + t) ≠ o_fw σ (b + t)) := by
  induction k with
  | zero =>
    intro m i hi hm
    obtain ⟨m, rfl⟩ : ∃ q, m = q + 1 := ⟨m - 1, by omega⟩
    have e : i = s := by omega
    refine Or.inl ⟨?_, fun t h1 h2 => by omega⟩
    rw [LX0_hasSameUnits_24, cIf_t (nI_le (by omega) (by omega)), e]
  | succ k ih =>
    intro m i hi hm
    obtain ⟨m, rfl⟩ : ∃ q, m = q + 1 := ⟨m - 1, by omega⟩
    rw [LX0_hasSameUnits_24, cIf_f (nI_ge (by omega) (by omega)), nI_add, ck_t (vp_in_nI (by omega) (by omega)), nI_clamp (n := x + i) (by omega), nmd_v, nI_add, ck_t (vp_in_nI (by omega) (by omega)), nI_clamp (n := b + i) (by omega), nmd_v]
    by_cases e : o_fw σ (x + i) = o_fw σ (b + i)
    · rw [cIf_t e, nmd_v, nI_1]
      rcases ih m (i + 1) (by omega) (by omega) with ⟨h1, h2⟩ | ⟨h1, t, h2, h3, h4⟩
      · refine Or.inl ⟨h1, fun t t1 t2 => ?_⟩
        by_cases et : t = i
        · rw [et]; exact e
        · exact h2 t (by omega) t2
      · exact Or.inr ⟨h1, t, by omega, h3, h4⟩
    · rw [cIf_f e]
      exact Or.inr ⟨rfl, i, Nat.le_refl _, by omega, e⟩
theorem P_same {F : Nat} {σ : oS} {U x b n m : Nat} (hF : 4100 < F) (hU : U ≤ o_lw σ) (hl : o_lw σ ≤ 1048576) (hx : Fx (o_fw σ) U x n) (hb : Fx (o_fw σ) U b m) : (fX0_hasSameUnits F σ (nI x) (nI b) = some (1, σ) ∧ sameU (o_fw σ) x b) ∨ (fX0_hasSameUnits F σ (nI x) (nI b) = some (0, σ) ∧ ¬ sameU (o_fw σ) x b) := by
  obtain ⟨x1, x2, x3, x4, x5, x6, x7⟩ := hx
  obtain ⟨b1, b2, b3, b4, b5, b6, b7⟩ := hb
  have h3 := okO_3 x1
  have h4 := okO_3 b1
  have hla : ∀ a k, okO (o_fw σ) a → a + sz (o_fw σ) a ≤ U → 3 < sz (o_fw σ) a → o_fw σ (a + 3) = nI k → lk (o_fw σ) a = 0 → fX0_lengthAt F σ (nI a) = some (nI k, σ) := fun a k y1 y2 y3 y4 y5 => by
    unfold fX0_lengthAt
    rw [P_linksAt (by omega) hl y1.1, bnd_s, y5, nI_p3, nI_add, Nat.add_zero, ck_t (vp_in_nI (by omega) (by omega)), nI_clamp (by omega), nmd_v, y4]
  unfold fX0_hasSameUnits sameU
  rw [hla x n x1 x2 (by omega) x4 x5, bnd_s, hla b m b1 b2 (by omega) b4 b5, bnd_s, x4, b4, nI_clamp (n := n) (by omega)]
  by_cases e : n = m
  · subst e
    rw [cIf_t rfl, P_sizeAt (by omega) hl x1.1, bnd_s, x3]
    rcases P_sameL (F := F) (K := fun w15 σ16 => some (1, σ16)) (σ := σ) (x := x) (b := b) (s := 4 + (n + 1) / 2) (by omega) (by omega) hl ((n + 1) / 2) F 4 (by omega) (by omega) with ⟨h1, h2⟩ | ⟨h1, t, h2, h3, h4⟩
    · refine Or.inl ⟨h1, rfl, fun k hk => ?_⟩
      have hw := word_un.mp (show o_fw σ (x + 4 + k / 2) = o_fw σ (b + 4 + k / 2) by
        have := h2 (4 + k / 2) (by omega) (by omega)
        rw [show x + 4 + k / 2 = x + (4 + k / 2) by omega, show b + 4 + k / 2 = b + (4 + k / 2) by omega]
        exact this)
      rcases Nat.mod_two_eq_zero_or_one k with q | q
      · have := hw.1
        rw [show 2 * (k / 2) = k by omega] at this
        exact this
      · have := hw.2
        rw [show 2 * (k / 2) + 1 = k by omega] at this
        exact this
    · refine Or.inr ⟨h1, fun hs => h4 ?_⟩
      have hun : ∀ k, k < n + n % 2 → un (o_fw σ) x k = un (o_fw σ) b k := fun k hk => by
        by_cases hkn : k < n
        · exact hs.2 k hkn
        · have : k = n := by omega
          rw [this, x7 (by omega), b7 (by omega)]
      have := word_un.mpr (show un (o_fw σ) x (2 * (t - 4)) = un (o_fw σ) b (2 * (t - 4)) ∧ un (o_fw σ) x (2 * (t - 4) + 1) = un (o_fw σ) b (2 * (t - 4) + 1) from ⟨hun _ (by omega), hun _ (by omega)⟩)
      rw [show x + 4 + (t - 4) = x + t by omega, show b + 4 + (t - 4) = b + t by omega] at this
      exact this
  · have hne : ¬ nI n = nI m := fun q => e (nI_inj (by omega) (by omega) q)
    rw [cIf_f hne]
    exact Or.inr ⟨rfl, fun q => hne q.1⟩
theorem P_findL {F : Nat} {K : Int32 → oS → Option (Int32 × oS)} {σ : oS} {U b m : Nat} {nl : List Nat} (hF : 4100 < F) (hU : U ≤ o_lw σ) (hl : o_lw σ ≤ 1048576) (hN : NLs σ nl) (hnl : ∀ x ∈ nl, ∃ n, Fx (o_fw σ) U x n) (hb : Fx (o_fw σ) U b m) (k : Nat) : ∀ q i, i + k = nl.length → k < q →
    (∃ x ∈ nl, sameU (o_fw σ) x b ∧ LX0_findName_2 F K (nI b) q (nI i) σ = some (nI x, σ)) ∨ (LX0_findName_2 F K (nI b) q (nI i) σ = K (nI nl.length) σ ∧ ∀ j x, i ≤ j → nl[j]? = some x → ¬ sameU (o_fw σ) x b) := by
  obtain ⟨hN1, hN2, hN3, hN4⟩ := hN
  induction k with
  | zero =>
    intro q i hi hq
    obtain ⟨q, rfl⟩ : ∃ r, q = r + 1 := ⟨q - 1, by omega⟩
    have e : i = nl.length := by omega
    refine Or.inr ⟨?_, fun j x h1 h2 => ?_⟩
    · rw [LX0_findName_2, hN1, cIf_t (nI_le (by omega) (by omega)), e]
    · rw [List.getElem?_eq_none (by omega)] at h2
      exact absurd h2 (by simp)
  | succ k ih =>
    intro q i hi hq
    obtain ⟨q, rfl⟩ : ∃ r, q = r + 1 := ⟨q - 1, by omega⟩
    have hix : nl[i]? = some (nl[i]'(by omega)) := List.getElem?_eq_getElem (by omega)
    generalize hx : nl[i]'(by omega) = x at hix
    have hmem : x ∈ nl := by rw [← hx]; exact List.getElem_mem _
    obtain ⟨n, hn⟩ := hnl x hmem
    rw [LX0_findName_2, hN1, cIf_f (nI_ge (by omega) (by omega)), ck_t (vp_in_nI (by omega) (by omega)), nI_clamp (n := i) (by omega), nmd_v, hN4 i x hix]
    rcases P_same (F := F) hF hU hl hn hb with ⟨h1, h2⟩ | ⟨h1, h2⟩
    · rw [h1, bnd_s, cIf_f one_ne0, ck_t (vp_in_nI (by omega) (by omega)), nmd_v, hN4 i x hix]
      exact Or.inl ⟨x, hmem, h2, rfl⟩
    · rw [h1, bnd_s, cIf_t rfl, nmd_v, nI_1]
      rcases ih q (i + 1) (by omega) (by omega) with h | ⟨h3, h4⟩
      · exact Or.inl h
      · refine Or.inr ⟨h3, fun j y j1 j2 => ?_⟩
        by_cases ej : j = i
        · rw [ej, hix] at j2
          cases j2
          exact h2
        · exact h4 j y (by omega) j2
/-- what the reference looks for -/
def Qn (μ : mS) (o p : Nat) : Prop := ¬ m_there μ p = 0 ∧ m_kind μ p = 5 ∧ mlen μ p = mlen μ o ∧ ∀ k, k < mlen μ o → uo μ p k = uo μ o k
theorem ordV_0 {μ : mS} {o p : Nat} (hl : mlen μ p = mlen μ o) : ordV μ p o = 0 ↔ ∀ k, k < mlen μ o → uo μ p k = uo μ o k := by
  unfold ordV
  rw [hl, Nat.min_self]
  constructor
  · intro h k hk
    by_cases e : uo μ p k = uo μ o k
    · exact e
    · obtain ⟨v, v1, v2⟩ := cmpU_some (f := uo μ p) (g := uo μ o) (mlen μ o) 0 k (Nat.zero_le _) (by omega) e
      rw [v1] at h
      exact absurd h v2
  · intro h
    rw [cmpU_none (f := uo μ p) (g := uo μ o) (mlen μ o) 0 (fun j _ hj => h j (by omega))]
    show sg (mlen μ o) (mlen μ o) = 0
    unfold sg
    rw [if_pos rfl]
theorem P_findR {F : Nat} {K : Int32 → mS → Option (Int32 × mS)} {μ : mS} {M o : Nat} (hF : 4100 < F) (hM : M ≤ 4000) (hT : MT μ M) (hob : m_objects μ = nI M) (ho : 1 ≤ o) (ho2 : o < M) (k : Nat) : ∀ q i, i + k = M → 1 ≤ i → k < q →
    (∃ p, i ≤ p ∧ p < M ∧ Qn μ o p ∧ LX1_find_6 F K (nI o) q (nI i) μ = some (nI p, μ)) ∨ (LX1_find_6 F K (nI o) q (nI i) μ = K (nI M) μ ∧ ∀ p, i ≤ p → p < M → ¬ Qn μ o p) := by
  have hino : vp_in (nI o) 4096 := vp_in_nI (by omega) (by omega)
  have hclo : (nI o).toNatClampNeg = o := nI_clamp (by omega)
  obtain ⟨l1, l2, -⟩ := hT o ho ho2
  induction k with
  | zero =>
    intro q i hi h1 hq
    obtain ⟨q, rfl⟩ : ∃ r, q = r + 1 := ⟨q - 1, by omega⟩
    have e : i = M := by omega
    refine Or.inr ⟨?_, fun p h1 h2 => by omega⟩
    rw [LX1_find_6, hob, cIf_t (nI_le (by omega) (by omega)), e]
  | succ k ih =>
    intro q i hi h1 hq
    obtain ⟨q, rfl⟩ : ∃ r, q = r + 1 := ⟨q - 1, by omega⟩
    have hin : vp_in (nI i) 4096 := vp_in_nI (by omega) (by omega)
    have hcl : (nI i).toNatClampNeg = i := nI_clamp (by omega)
    obtain ⟨m1, m2, -⟩ := hT i h1 (by omega)
    have next : ¬ Qn μ o i → (LX1_find_6 F K (nI o) (q + 1) (nI i) μ = LX1_find_6 F K (nI o) q (nI i + 1) μ) → (∃ p, i ≤ p ∧ p < M ∧ Qn μ o p ∧ LX1_find_6 F K (nI o) (q + 1) (nI i) μ = some (nI p, μ)) ∨ (LX1_find_6 F K (nI o) (q + 1) (nI i) μ = K (nI M) μ ∧ ∀ p, i ≤ p → p < M → ¬ Qn μ o p) := fun hq0 he => by
      rw [he, nI_1]
      rcases ih q (i + 1) (by omega) (by omega) (by omega) with ⟨p, p1, p2, p3, p4⟩ | ⟨h2, h3⟩
      · exact Or.inl ⟨p, by omega, p2, p3, p4⟩
      · refine Or.inr ⟨h2, fun p p1 p2 => ?_⟩
        by_cases e : p = i
        · rw [e]; exact hq0
        · exact h3 p (by omega) p2
    have ev : LX1_find_6 F K (nI o) (q + 1) (nI i) μ = cIf (m_there μ i = 0) (LX1_find_6 F K (nI o) q (nI i + 1) μ) (cIf (m_kind μ i = 5) (cIf (nI (mlen μ i) = nI (mlen μ o)) (bnd (fX1_order F μ (nI i) (nI o)) (fun r18 σ17 => cIf (r18 = 0) (some (nI i, σ17)) (nmd (nI i + 1) (fun x20 => LX1_find_6 F K (nI o) q x20 σ17)))) (LX1_find_6 F K (nI o) q (nI i + 1) μ)) (LX1_find_6 F K (nI o) q (nI i + 1) μ)) := by
      rw [LX1_find_6, hob, cIf_f (nI_ge (by omega) (by omega)), ck_t hin, hcl, nmd_v, nmd_v, ck_t hin, nmd_v, ck_t hin, nmd_v, ck_t hino, hclo, nmd_v, m1, l1]
    by_cases c1 : m_there μ i = 0
    · exact next (fun h => h.1 c1) (by rw [ev, cIf_t c1])
    by_cases c2 : m_kind μ i = 5
    · by_cases c3 : mlen μ i = mlen μ o
      · have eo := P_order (F := F) hF hM hT h1 (show i < M by omega) ho ho2
        by_cases c4 : ordV μ i o = 0
        · refine Or.inl ⟨i, Nat.le_refl _, by omega, ⟨c1, c2, c3, (ordV_0 c3).mp c4⟩, ?_⟩
          rw [ev, cIf_f c1, cIf_t c2, cIf_t (by rw [c3]), eo, bnd_s, cIf_t c4]
        · exact next (fun h => c4 ((ordV_0 c3).mpr h.2.2.2)) (by rw [ev, cIf_f c1, cIf_t c2, cIf_t (by rw [c3]), eo, bnd_s, cIf_f c4, nmd_v])
      · exact next (fun h => c3 h.2.2.1) (by rw [ev, cIf_f c1, cIf_t c2, cIf_f (fun q => c3 (nI_inj (by omega) (by omega) q))])
    · exact next (fun h => c2 h.2.1) (by rw [ev, cIf_f c1, cIf_f c2])
/-- a name is new -/
theorem OI_name {σ1 σ4 : oS} {os nl : List Nat} {U s : Nat} (h : OI σ1 os U nl) (E1 : o_lim σ4 = o_lim σ1) (E2 : o_fr σ4 = o_fr σ1) (E6 : o_wt σ4 = o_wt σ1) (E7 : o_st σ4 = o_st σ1) (x1 : o_us σ4 = nI (U + s)) (x4 : U + s ≤ o_lw σ4) (x3 : o_lw σ1 ≤ o_lw σ4) (x5 : ∀ L, o_lim σ1 = nI L → L ≤ 1048576 → o_lw σ4 ≤ L) (x6 : ∀ x, x < U → o_fw σ4 x = o_fw σ1 x) (x7 : o_fw σ4 U = nI (hdr 5 0 0 s)) (x8 : o_fw σ4 (U + 1) = -1) (hs : s < 4096) (hs3 : 3 ≤ s)
    (y1 : o_nc σ4 = nI (nl.length + 1)) (y2 : nl.length + 1 ≤ o_ln σ4) (y3 : o_ln σ4 ≤ 1048576) (y4 : ∀ j, j < nl.length → o_fn σ4 j = o_fn σ1 j) (y5 : o_fn σ4 nl.length = nI U) (hnU : NmOk (o_fw σ4) U) (hnew : ∀ x ∈ nl, ¬ sameU (o_fw σ4) x U) : OI σ4 (os ++ [U]) (U + s) (nl ++ [U]) := by
  obtain ⟨⟨hC, hU, hlw0, hP1, hP2⟩, ⟨hQ1, hQ2⟩, hu, ⟨hN1, hN2, hN3, hN4⟩, hnk, hnd, hnm, hds, ⟨L, l1, l2, l3, l4, l5⟩, st, d1, d2⟩ := h
  obtain ⟨r1, r2, r3, r4, r5⟩ := hdr_rd (f := o_fw σ4) (a := U) (k := 5) (l := 0) (v := 0) (s := s) (by omega) (by omega) (by omega) hs x7
  have hok0 : ∀ a ∈ os, okO (o_fw σ1) a := fun a ha => (Ch_mem os hC ha).2.2
  have hag : ∀ a ∈ os, ∀ i, i < sz (o_fw σ1) a → o_fw σ4 (a + i) = o_fw σ1 (a + i) := fun a ha i hi => x6 _ (by have := (Ch_mem os hC ha).2.1; omega)
  have hno : ∀ a ∈ nl, ∀ i, i < sz (o_fw σ1) a → o_fw σ4 (a + i) = o_fw σ1 (a + i) := fun a ha => hag a ((hnk a).mp ha).1
  have hokU : okO (o_fw σ4) U := ⟨r5, by rw [r2, r3, r4]; omega⟩
  have hhd : ∀ b ∈ os, o_fw σ4 b = o_fw σ1 b := fun b hb => hag b hb 0 (by have := okO_3 (hok0 b hb); omega)
  have hw := x5 L l1 l3
  have hC3 : Ch (o_fw σ4) 0 (os ++ [U]) (U + s) := by
    have := Ch_app os (Ch_congr os hhd hC) hokU
    rw [r4] at this
    exact this
  have up : ∀ x, (x = -1 ∨ ∃ b ∈ os, x = nI b) → x = -1 ∨ ∃ b ∈ os ++ [U], x = nI b := fun x hx => by
    rcases hx with e | ⟨b, hb, e⟩
    · exact Or.inl e
    · exact Or.inr ⟨b, List.mem_append_left _ hb, e⟩
  have hUn : U ∉ nl := fun q => by
    have := Ch_mem os hC ((hnk U).mp q).1
    have := okO_3 this.2.2
    omega
  have hlen : (nl ++ [U]).length = nl.length + 1 := by rw [List.length_append]; rfl
  refine ⟨⟨hC3, x4, by omega, fun a ha x hx => ?_, fun r hr => by rw [E2]; exact up _ (hP2 r hr)⟩, ⟨E6.trans hQ1, fun a ha => ?_⟩, x1, ⟨by rw [hlen]; exact y1, by rw [hlen]; exact y2, y3, fun j a hj => ?_⟩, fun a => ?_, ?_, fun a ha => ?_, fun a ha b hb hab => ?_, ⟨L, E1.trans l1, l2, l3, by omega, hw⟩, st, E7.trans d1, d2.1, by omega⟩
  · rcases List.mem_append.mp ha with ha | ha
    · exact up x (hP1 a ha x (chd_ag (hok0 a ha) (hag a ha) hx))
    · rw [List.mem_singleton.mp ha] at hx
      rcases hx with ⟨i, hi, e⟩ | ⟨j, hj, e1, e2⟩
      · rw [r2] at hi
        exact absurd hi (by omega)
      · rw [r3] at hj
        exact absurd hj (by omega)
  · rcases List.mem_append.mp ha with ha | ha
    · rw [hag a ha 1 (by have := okO_3 (hok0 a ha); omega)]; exact hQ2 a ha
    · rw [List.mem_singleton.mp ha]; exact x8
  · by_cases hjl : j < nl.length
    · rw [List.getElem?_append_left hjl] at hj
      rw [y4 j hjl]
      exact hN4 j a hj
    · rw [List.getElem?_append_right (by omega)] at hj
      have e : j - nl.length = 0 := by
        rcases Nat.eq_zero_or_pos (j - nl.length) with q | q
        · exact q
        · rw [List.getElem?_eq_none (by show 1 ≤ _; omega)] at hj
          exact absurd hj (by simp)
      rw [e] at hj
      have ea : U = a := by
        have : some U = some a := hj
        exact Option.some.inj this
      have ej : j = nl.length := by omega
      rw [ej, y5, ea]
  · constructor
    · intro q
      rcases List.mem_append.mp q with q | q
      · obtain ⟨q1, q2⟩ := (hnk a).mp q
        exact ⟨List.mem_append_left _ q1, by rw [kd_congr (hhd a q1)]; exact q2⟩
      · rw [List.mem_singleton.mp q]
        exact ⟨List.mem_append_right _ List.mem_cons_self, r1⟩
    · rintro ⟨q1, q2⟩
      rcases List.mem_append.mp q1 with q1 | q1
      · exact List.mem_append_left _ ((hnk a).mpr ⟨q1, by rw [kd_congr (hhd a q1)] at q2; exact q2⟩)
      · exact List.mem_append_right _ q1
  · refine List.nodup_append.mpr ⟨hnd, by simp, fun a ha b hb e => ?_⟩
    rw [List.mem_singleton.mp hb] at e
    exact hUn (e ▸ ha)
  · rcases List.mem_append.mp ha with ha | ha
    · exact NmOk_ag (hok0 a ((hnk a).mp ha).1) (hno a ha) (hnm a ha)
    · rw [List.mem_singleton.mp ha]; exact hnU
  · have sym : ∀ {u w}, sameU (o_fw σ4) u w → sameU (o_fw σ4) w u := fun {u w} q => ⟨q.1.symm, fun k hk => (q.2 k (by rw [q.1]; exact hk)).symm⟩
    rcases List.mem_append.mp ha with ha | ha
    · rcases List.mem_append.mp hb with hb | hb
      · exact hds a ha b hb (sameU_ag (hno a ha) (hno b hb) (hnm a ha) (hnm b hb) hab)
      · rw [List.mem_singleton.mp hb] at hab
        exact absurd hab (hnew a ha)
    · rcases List.mem_append.mp hb with hb | hb
      · rw [List.mem_singleton.mp ha] at hab
        exact absurd (sym hab) (hnew b hb)
      · rw [List.mem_singleton.mp ha, List.mem_singleton.mp hb]
