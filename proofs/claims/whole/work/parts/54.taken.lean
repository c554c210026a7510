/-! the reference's search finds what a root leads to; what is taken -/
def Sr (f : Nat → Int32) (os : List Nat) (U : Nat) (fr : Nat → Int32) (μ : mS) (M : Nat) (R : Nat → Nat → Prop) : Prop :=
  Ch f 0 os U ∧ U ≤ 1048576 ∧ M ≤ 4000 ∧ m_objects μ = nI M ∧ (∀ a o, R a o → a ∈ os ∧ 1 ≤ o ∧ o < M) ∧ (∀ a o p, R a o → R a p → o = p) ∧ (∀ a b o, R a o → R b o → a = b) ∧
  (∀ q, q < 24 → PtR R (fr q) (m_root μ q)) ∧ ∀ a o, R a o → ObR f μ R a o
def PR (f : Nat → Int32) (os : List Nat) (fr : Nat → Int32) (R : Nat → Nat → Prop) (o : Nat) : Prop := ∃ a, R a o ∧ Rch f os fr a
theorem Sr_lt {f : Nat → Int32} {os : List Nat} {U : Nat} {fr : Nat → Int32} {μ : mS} {M : Nat} {R : Nat → Nat → Prop} (h : Sr f os U fr μ M R) {a o : Nat} (hR : R a o) : a + 3 ≤ 1048576 ∧ okO f a ∧ a + sz f a ≤ U := by
  obtain ⟨hC, hU, hM, ho, h1, -⟩ := h
  have := Ch_mem os hC (h1 a o hR).1
  have h3 := okO_3 this.2.2
  exact ⟨by omega, this.2.2, this.2.1⟩
theorem nI0 : (0 : Int32) = nI 0 := rfl
theorem nI1l : (1 : Int32) = nI 1 := rfl
theorem nI2l : (2 : Int32) = nI 2 := rfl
theorem nI3l : (3 : Int32) = nI 3 := rfl
theorem nI4l : (4 : Int32) = nI 4 := rfl
theorem nI5l : (5 : Int32) = nI 5 := rfl
theorem Sr_cm {f : Nat → Int32} {os : List Nat} {U : Nat} {fr : Nat → Int32} {μ : mS} {M : Nat} {R : Nat → Nat → Prop} (h : Sr f os U fr μ M R) {a o : Nat} (hR : R a o) (hr : Rch f os fr a) {x y : Int32} (hx : chd f a x) (hp : PtR R x y) : Cm M (PR f os fr R) y := by
  obtain ⟨hC, hU, hM, ho, h1, h2, h3, h4, h5⟩ := h
  rcases hp with ⟨e1, e2⟩ | ⟨b, p, e1, e2, hb⟩
  · exact Or.inl e2
  · refine Or.inr ⟨p, e2, (h1 b p hb).2.1, (h1 b p hb).2.2, b, hb, ?_⟩
    exact Rch_step hr (h1 a o hR).1 (h1 b p hb).1 (e1 ▸ hx)
theorem kd16 (f : Nat → Int32) (a : Nat) : kd f a < 16 := by unfold kd; omega
theorem Sr_mok {f : Nat → Int32} {os : List Nat} {U : Nat} {fr : Nat → Int32} {μ : mS} {M : Nat} {R : Nat → Nat → Prop} (h : Sr f os U fr μ M R) {o : Nat} (hP : PR f os fr R o) : mok μ M (PR f os fr R) o := by
  obtain ⟨a, hR, hr⟩ := hP
  have hcm := fun x y => @Sr_cm f os U fr μ M R h a o hR hr x y
  obtain ⟨hC, hU, hM, ho, h1, h2, h3, h4, h5⟩ := id h
  obtain ⟨hk, hob⟩ := h5 a o hR
  rcases hob with hb | ht
  · obtain ⟨b1, b2, b3, b4, b5, b6, b7, b8, b9, b10⟩ := hb
    refine ⟨⟨_, b5, b2, fun j hj => hcm _ _ (Or.inl ⟨j, hj, rfl⟩) (b8 j hj)⟩, ⟨_, b6, b3, fun j hj => ?_⟩, fun q => ?_, fun q => ?_⟩
    · rcases b9 j hj with ⟨q1, b, p, q2, q3, q4⟩ | ⟨q1, q2, q3⟩
      · exact hcm _ _ (Or.inr ⟨j, hj, q1, rfl⟩) (Or.inr ⟨b, p, q2, q3, q4⟩)
      · exact Or.inl q2
    · rw [hk, b1] at q; exact absurd q (by decide)
    · rw [hk, b1] at q; exact absurd q (by decide)
  · obtain ⟨t1, t2, t3, n, t4, t5, t6, ht⟩ := ht
    refine ⟨⟨0, t2, by omega, fun j hj => absurd hj (by omega)⟩, ⟨0, t3, by omega, fun j hj => absurd hj (by omega)⟩, fun q => ?_, fun q => ?_⟩
    · rcases ht with ⟨q1, -⟩ | ⟨q1, q2, q3, q4, q5, ⟨a1, o1, r1, r2, r3⟩, a2, o2, s1, s2, s3⟩ | ⟨q1, -⟩
      · rw [hk] at q; rcases q1 with e | e <;> (rw [e] at q; exact absurd q (by decide))
      · exact ⟨hcm _ _ (Or.inl ⟨0, by omega, r1⟩) (Or.inr ⟨a1, o1, rfl, r2, r3⟩), hcm _ _ (Or.inl ⟨1, by omega, s1⟩) (Or.inr ⟨a2, o2, rfl, s2, s3⟩)⟩
      · rw [hk, q1] at q; exact absurd q (by decide)
    · rcases ht with ⟨q1, -⟩ | ⟨q1, -⟩ | ⟨q1, q2, q3, q4, ⟨a1, o1, r1, r2, r3, -⟩, -⟩
      · rw [hk] at q; rcases q1 with e | e <;> (rw [e] at q; exact absurd q (by decide))
      · rw [hk, q1] at q; exact absurd q (by decide)
      · exact hcm _ _ (Or.inl ⟨0, by omega, r1⟩) (Or.inr ⟨a1, o1, rfl, r2, r3⟩)
/-- a lead of the class is one of the reference -/
theorem Sr_mch {f : Nat → Int32} {os : List Nat} {U : Nat} {fr : Nat → Int32} {μ : mS} {M : Nat} {R : Nat → Nat → Prop} (h : Sr f os U fr μ M R) {a o c : Nat} (hR : R a o) (hc : c ∈ os) (hx : chd f a (nI c)) : ∃ p, R c p ∧ mch μ o p := by
  obtain ⟨hC, hU, hM, ho, h1, h2, h3, h4, h5⟩ := id h
  have hlt : ∀ b ∈ os, b < 2 ^ 31 := fun b hb => by have := Ch_mem os hC hb; have h3 := okO_3 this.2.2; omega
  obtain ⟨hk, hob⟩ := h5 a o hR
  have got : ∀ b p, nI c = nI b → R b p → R c p := fun b p e hb => by
    have : c = b := nI_inj (hlt c hc) (hlt b (h1 b p hb).1) e
    rw [this]; exact hb
  rcases hob with hb | ht
  · obtain ⟨b1, b2, b3, b4, b5, b6, b7, b8, b9, b10⟩ := hb
    rcases hx with ⟨i, hi, ex⟩ | ⟨j, hj, hj2, ex⟩
    · rcases b8 i hi with ⟨e1, e2⟩ | ⟨b, p, e1, e2, hb⟩
      · rw [ex] at e1; exact absurd e1 (nI_nm1 (hlt c hc))
      · exact ⟨p, got b p (ex.symm.trans e1) hb, Or.inl ⟨i, _, b5, b2, hi, e2⟩⟩
    · rcases b9 j hj with ⟨q1, b, p, q2, q3, q4⟩ | ⟨q1, q2, q3⟩
      · exact ⟨p, got b p (ex.symm.trans q2) q4, Or.inr (Or.inl ⟨j, _, b6, b3, hj, q3⟩)⟩
      · exact absurd hj2 q1
  · obtain ⟨t1, t2, t3, n, t4, t5, t6, ht⟩ := ht
    rcases hx with ⟨i, hi, ex⟩ | ⟨j, hj, hj2, ex⟩
    · rcases ht with ⟨q1, q2, -⟩ | ⟨q1, q2, q3, q4, q5, ⟨a1, o1, r1, r2, r3⟩, a2, o2, s1, s2, s3⟩ | ⟨q1, q2, q3, q4, ⟨a1, o1, r1, r2, r3, -⟩, s1⟩
      · omega
      · have e3 : m_kind μ o = 3 := by rw [hk, q1]; rfl
        by_cases hi0 : i = 0
        · subst hi0
          exact ⟨o1, got a1 o1 (ex.symm.trans r1) r3, Or.inr (Or.inr (Or.inl ⟨e3, Or.inl r2⟩))⟩
        · have : i = 1 := by omega
          subst this
          exact ⟨o2, got a2 o2 (ex.symm.trans s1) s3, Or.inr (Or.inr (Or.inl ⟨e3, Or.inr s2⟩))⟩
      · have e4 : m_kind μ o = 4 := by rw [hk, q1]; rfl
        by_cases hi0 : i = 0
        · subst hi0
          exact ⟨o1, got a1 o1 (ex.symm.trans r1) r3, Or.inr (Or.inr (Or.inr ⟨e4, r2⟩))⟩
        · have : i = 1 := by omega
          subst this
          have e5 : nI c = -1 := ex.symm.trans s1
          exact absurd e5 (nI_nm1 (hlt c hc))
    · omega
/-- what a root leads to has its number -/
theorem Sr_all {f : Nat → Int32} {os : List Nat} {U : Nat} {fr : Nat → Int32} {μ : mS} {M : Nat} {R : Nat → Nat → Prop} (h : Sr f os U fr μ M R) {a : Nat} (hr : Rch f os fr a) : ∃ o, R a o := by
  obtain ⟨hC, hU, hM, ho, h1, h2, h3, h4, h5⟩ := id h
  have hlt : ∀ b ∈ os, b < 2 ^ 31 := fun b hb => by have := Ch_mem os hC hb; have h3 := okO_3 this.2.2; omega
  refine hr (fun b => ∃ p, R b p) (fun q hq b hb e => ?_) (fun b hb ⟨p, hp⟩ c hc hch => ?_)
  · rcases h4 q hq with ⟨e1, e2⟩ | ⟨b', p, e1, e2, hb'⟩
    · rw [e] at e1; exact absurd e1 (nI_nm1 (hlt b hb))
    · have : b = b' := nI_inj (hlt b hb) (hlt b' (h1 b' p hb').1) (e.symm.trans e1)
      subst this
      exact ⟨p, hb'⟩
  · obtain ⟨q, hq1, -⟩ := Sr_mch h hp hc hch
    exact ⟨q, hq1⟩
/-- the search -/
theorem P_look {F : Nat} {f : Nat → Int32} {os : List Nat} {U : Nat} {fr : Nat → Int32} {μ : mS} {M : Nat} {R : Nat → Nat → Prop} (hF : 4100 < F) (h : Sr f os U fr μ M R) :
    ∃ (μ' : mS) (wl : List Nat), fX1_look F μ = some μ' ∧ SameM μ' μ ∧ m_wait μ' = nI wl.length ∧ (∀ j a, wl[j]? = some a → m_waiting μ' j = nI a) ∧ wl.Nodup ∧ (∀ o, o ∈ wl ↔ PR f os fr R o) ∧ (∀ o, o < M → (m_there μ' o = 0 ∧ o ∉ wl) ∨ (m_there μ' o = 1 ∧ o ∈ wl)) ∧ wl.length ≤ M := by
  obtain ⟨hC, hU, hM, ho, h1, h2, h3, h4, h5⟩ := id h
  have hlt : ∀ b ∈ os, b < 2 ^ 31 := fun b hb => by have := Ch_mem os hC hb; have h3 := okO_3 this.2.2; omega
  obtain ⟨t, c1, c2, -⟩ := P_look_clear (F := F) (K := fun w6 σ7 => LX1_look_30 F (fun w13 σ14 => LX1_look_54 F (fun w88 σ89 => some σ89) F 0 σ14) F 0 σ7) hM M F 0 (m_s_wait μ 0) (by omega) (by omega) (by rw [mgs_objects_wait]; exact ho)
  have hI0 : LI μ M (PR f os fr R) (m_s_there (m_s_wait μ 0) t) [] := ⟨(SameM_there _ _).tr (SameM_wait _ _), rfl, fun j a hj => by simp at hj, List.nodup_nil, fun o hh => by simp at hh, fun o hh => Or.inl ⟨c2 o (by omega) hh, by simp⟩⟩
  obtain ⟨μ1, s1, d1, d2, d3⟩ := P_look_roots (F := F) (K := fun w13 σ14 => LX1_look_54 F (fun w88 σ89 => some σ89) F 0 σ14) (μ0 := μ) hM (fun q hq => by
    rcases h4 q hq with ⟨e1, e2⟩ | ⟨b, p, e1, e2, hb⟩
    · exact Or.inl e2
    · exact Or.inr ⟨p, e2, (h1 b p hb).2.1, (h1 b p hb).2.2, b, hb, Rch_root hq (h1 b p hb).1 e1⟩) 24 F 0 _ [] (by omega) (by omega) hI0 (fun q hq => absurd hq (by omega))
  rw [List.nil_append] at d2 d3
  obtain ⟨μ2, s2, x, g1, g2, g3⟩ := P_look_all (F := F) (K := fun _ σ89 => some σ89) (μ0 := μ) hM (by omega) (fun o _ _ hP => Sr_mok h hP) M F 0 μ1 s1 (by omega) (by omega) d2 (fun o hh => by simp at hh)
  refine ⟨μ2, s1 ++ s2, ?_, g2.1, g2.2.1, g2.2.2.1, g2.2.2.2.1, fun o => ⟨fun hh => (g2.2.2.2.2.1 o hh).2.2, fun hP => ?_⟩, g2.2.2.2.2.2, nd_len M _ g2.2.2.2.1 (fun y hy => (g2.2.2.2.2.1 y hy).2.1)⟩
  · unfold fX1_look
    rw [nmd_v]
    exact (c1.trans d1).trans g1
  · obtain ⟨a, hR, hr⟩ := hP
    have key : ∃ p, R a p ∧ p ∈ s1 ++ s2 := hr (fun b => ∃ p, R b p ∧ p ∈ s1 ++ s2) (fun q hq b hb e => by
      rcases h4 q hq with ⟨e1, e2⟩ | ⟨b', p, e1, e2, hb'⟩
      · rw [e] at e1; exact absurd e1 (nI_nm1 (hlt b hb))
      · have : b = b' := nI_inj (hlt b hb) (hlt b' (h1 b' p hb').1) (e.symm.trans e1)
        subst this
        exact ⟨p, hb', List.mem_append_left _ (d3 q hq p (h1 b p hb').2.1 (h1 b p hb').2.2 e2)⟩) (fun b hb ⟨p, hp1, hp2⟩ c hc hch => by
      obtain ⟨q, hq1, hq2⟩ := Sr_mch h hp1 hc hch
      exact ⟨q, hq1, g3 p hp2 q (h1 c q hq1).2.1 (h1 c q hq1).2.2 hq2⟩)
    obtain ⟨p, hp1, hp2⟩ := key
    rw [h2 a o p hR hp1]
    exact hp2
theorem P_words {F : Nat} {f : Nat → Int32} {os : List Nat} {U : Nat} {fr : Nat → Int32} {μ : mS} {M : Nat} {R : Nat → Nat → Prop} (h : Sr f os U fr μ M R) {a o : Nat} (hR : R a o) {μ' : mS} (hs : SameM μ' μ) : fX1_words F μ' (nI o) = some (nI (sz f a), μ') := by
  obtain ⟨hC, hU, hM, ho, h1, h2, h3, h4, h5⟩ := id h
  have hin : vp_in (nI o) 4096 := vp_in_nI (by have := h1 a o hR; omega) (by omega)
  have hcl : (nI o).toNatClampNeg = o := nI_clamp (by have := h1 a o hR; omega)
  obtain ⟨hk, hob⟩ := h5 a o hR
  have hok := (Ch_mem os hC (h1 a o hR).1).2.2
  unfold fX1_words JX1_words_55
  simp only [nmd_v, ck_t hin, hcl]
  rw [hs.kind, hs.links, hs.values, hs.plain, hs.length, hk]
  rcases hob with hb | ht
  · obtain ⟨b1, b2, b3, b4, b5, b6, b7, b8, b9, b10⟩ := hb
    rw [b1, cIf_t (show nI 1 = 1 from rfl), b5, b6, b7, nI3l, nI_2m, nI_add, nI_add, nI_add]
    have := hok.2
    congr 2
    congr 1
    omega
  · obtain ⟨t1, t2, t3, n, t4, t5, t6, ht⟩ := ht
    rcases ht with ⟨q1, q2, q3, -⟩ | ⟨q1, q2, q3, -⟩ | ⟨q1, q2, q3, -⟩
    · have e : (4 : Int32) + (m_length μ o + 1) / 2 = nI (sz f a) := by
        rw [t5, nI_1, nI4l, nI2l, pk_div (by omega) (by omega) (by omega), nI_add, q3]
      rcases q1 with e1 | e1
      · rw [e1, cIf_f (by decide), cIf_t (show nI 2 = 2 from rfl), e]
      · rw [e1, cIf_f (by decide), cIf_f (by decide), cIf_t (show nI 5 = 5 from rfl), e]
    · rw [q1, cIf_f (by decide), cIf_f (by decide), cIf_f (by decide), q3]
      rfl
    · rw [q1, cIf_f (by decide), cIf_f (by decide), cIf_f (by decide), q3]
      rfl
theorem sum_perm {l1 l2 : List Nat} (h : l1.Perm l2) : l1.sum = l2.sum := by
  induction h with
  | nil => rfl
  | cons x _ ih => rw [List.sum_cons, List.sum_cons, ih]
  | swap x y l => simp only [List.sum_cons]; omega
  | trans _ _ ih1 ih2 => exact ih1.trans ih2
theorem tot_sum {z : Nat → Nat} {mb : Nat → Bool} : ∀ (os : List Nat) (e : Nat), tot z mb os e = e + ((os.filter mb).map z).sum
  | [], e => by simp [tot]
  | b :: os, e => by
    show tot z mb os (if mb b then e + z b else e) = _
    cases hm : mb b with
    | true => rw [if_pos rfl, tot_sum os, List.filter_cons_of_pos hm, List.map_cons, List.sum_cons]; omega
    | false => rw [if_neg (by decide), tot_sum os, List.filter_cons_of_neg (by rw [hm]; decide)]
theorem nd_map {g : Nat → Nat} : ∀ (l : List Nat), l.Nodup → (∀ x ∈ l, ∀ y ∈ l, g x = g y → x = y) → (l.map g).Nodup
  | [], _, _ => List.nodup_nil
  | x :: l, h, hi => by
    obtain ⟨n1, n2⟩ := List.nodup_cons.mp h
    rw [List.map_cons]
    refine List.nodup_cons.mpr ⟨fun q => ?_, nd_map l n2 (fun y hy z hz => hi y (List.mem_cons_of_mem _ hy) z (List.mem_cons_of_mem _ hz))⟩
    obtain ⟨y, hy, e⟩ := List.mem_map.mp q
    have := hi y (List.mem_cons_of_mem _ hy) x List.mem_cons_self e
    exact n1 (this ▸ hy)
theorem Ch_nd {f : Nat → Int32} : ∀ (os : List Nat) {a u : Nat}, Ch f a os u → os.Nodup
  | [], _, _, _ => List.nodup_nil
  | b :: os, a, u, h => by
    obtain ⟨e, ho, h⟩ := h
    subst e
    refine List.nodup_cons.mpr ⟨fun q => ?_, Ch_nd os h⟩
    have := (Ch_mem os h q).1
    have := okO_3 ho
    omega
/-- the sum over what is taken, as the reference goes over it -/
theorem P_taken_loop {F : Nat} {μ : mS} {wl : List Nat} {w : Nat → Nat} {K : Int32 → Int32 → mS → Option (Int32 × mS)} (hw : m_wait μ = nI wl.length) (hl : wl.length ≤ 4000) (hg : ∀ j a, wl[j]? = some a → m_waiting μ j = nI a) (hx : ∀ o ∈ wl, fX1_words F μ (nI o) = some (nI (w o), μ)) (k : Nat) :
    ∀ (n i s : Nat), i + k = wl.length → k < n → LX1_taken_8 F K n (nI s) (nI i) μ = K (nI (s + ((wl.drop i).map w).sum)) (nI wl.length) μ := by
  induction k with
  | zero =>
    intro n i s hi hn
    obtain ⟨n, rfl⟩ : ∃ m, n = m + 1 := ⟨n - 1, by omega⟩
    have e : i = wl.length := by omega
    subst e
    rw [LX1_taken_8, hw, cIf_t (nI_le (Nat.le_refl _) (by omega)), List.drop_length]
    rfl
  | succ k ih =>
    intro n i s hi hn
    obtain ⟨n, rfl⟩ : ∃ m, n = m + 1 := ⟨n - 1, by omega⟩
    have hlt : i < wl.length := by omega
    have hget : wl[i]? = some wl[i] := List.getElem?_eq_getElem hlt
    rw [LX1_taken_8, hw, cIf_f (nI_ge hlt (by omega)), ck_t (vp_in_nI (by omega) (by omega)), nI_clamp (by omega)]
    simp only [nmd_v]
    rw [hg i _ hget, hx _ (List.getElem_mem hlt), bnd_s, nI_add, nI_1, ih n (i + 1) (s + w wl[i]) (by omega) (by omega)]
    rw [List.drop_eq_getElem_cons hlt, List.map_cons, List.sum_cons, Nat.add_assoc]
/-- what is taken is what the class would keep -/
theorem P_taken {F : Nat} {f : Nat → Int32} {os : List Nat} {U : Nat} {fr : Nat → Int32} {μ : mS} {M : Nat} {R : Nat → Nat → Prop} {mb : Nat → Bool} (hF : 4100 < F) (h : Sr f os U fr μ M R) (hmb : ∀ a ∈ os, mb a = true ↔ Rch f os fr a) :
    ∃ μ', fX1_taken F μ = some (nI (tot (sz f) mb os 0), μ') ∧ SameM μ' μ := by
  obtain ⟨hC, hU, hM, ho, h1, h2, h3, h4, h5⟩ := id h
  have hall := fun a (_ : a ∈ os) => Sr_all h (a := a)
  obtain ⟨μ', wl, c1, c2, c3, c4, c5, c6, c7, c8⟩ := P_look hF h
  refine ⟨μ', ?_, c2⟩
  classical
  let w : Nat → Nat := fun o => if q : ∃ a, R a o then sz f q.choose else 0
  have hw : ∀ a o, R a o → w o = sz f a := fun a o hR => by
    have q : ∃ a, R a o := ⟨a, hR⟩
    show (if q : ∃ a, R a o then sz f q.choose else 0) = _
    rw [dif_pos q, h3 _ a o q.choose_spec hR]
  let ρ : Nat → Nat := fun a => if q : ∃ o, R a o then q.choose else 0
  have hρ : ∀ a ∈ os, mb a = true → R a (ρ a) := fun a ha hm => by
    have q := hall a ha ((hmb a ha).mp hm)
    show R a (if q : ∃ o, R a o then q.choose else 0)
    rw [dif_pos q]
    exact q.choose_spec
  have hperm : wl.Perm ((os.filter mb).map ρ) := by
    refine (List.perm_ext_iff_of_nodup c5 (nd_map _ ((Ch_nd os hC).filter _) (fun x hx y hy e => ?_))).mpr (fun o => ?_)
    · obtain ⟨x1, x2⟩ := List.mem_filter.mp hx
      obtain ⟨y1, y2⟩ := List.mem_filter.mp hy
      have hx3 := hρ x x1 x2
      rw [e] at hx3
      exact h3 x y _ hx3 (hρ y y1 y2)
    · rw [c6 o, List.mem_map]
      constructor
      · rintro ⟨a, hR, hr⟩
        have ha := (h1 a o hR).1
        have hm := (hmb a ha).mpr hr
        exact ⟨a, List.mem_filter.mpr ⟨ha, hm⟩, h2 a _ _ (hρ a ha hm) hR⟩
      · rintro ⟨a, ha, e⟩
        obtain ⟨x1, x2⟩ := List.mem_filter.mp ha
        exact ⟨a, e ▸ hρ a x1 x2, (hmb a x1).mp x2⟩
  have hsum : (wl.map w).sum = tot (sz f) mb os 0 := by
    rw [tot_sum, sum_perm (hperm.map w), List.map_map, Nat.zero_add]
    congr 1
    apply List.map_congr_left
    intro a ha
    obtain ⟨x1, x2⟩ := List.mem_filter.mp ha
    exact hw a _ (hρ a x1 x2)
  unfold fX1_taken
  rw [c1, bnp_s, nI0, P_taken_loop (w := w) c3 (by omega) c4 (fun o hh => by
    obtain ⟨a, hR, -⟩ := (c6 o).mp hh
    rw [hw a o hR]
    exact P_words h hR c2) wl.length F 0 0 (by omega) (by omega), List.drop_zero, Nat.zero_add, hsum]
