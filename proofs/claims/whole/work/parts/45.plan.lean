/-! where each object goes -/
def tot (z : Nat → Nat) (mb : Nat → Bool) : List Nat → Nat → Nat
  | [], e => e
  | b :: os, e => tot z mb os (if mb b then e + z b else e)
def psi (z : Nat → Nat) (mb : Nat → Bool) : List Nat → Nat → Nat → Nat
  | [], e, _ => e
  | b :: os, e, a => if a = b then e else psi z mb os (if mb b then e + z b else e) a
theorem psi_hd {z : Nat → Nat} {mb : Nat → Bool} {os : List Nat} {e b : Nat} : psi z mb (b :: os) e b = e := by show (if b = b then e else _) = e; rw [if_pos rfl]
theorem psi_tl {z : Nat → Nat} {mb : Nat → Bool} {os : List Nat} {e a b : Nat} (h : a ≠ b) : psi z mb (b :: os) e a = psi z mb os (if mb b then e + z b else e) a := by show (if a = b then e else _) = _; rw [if_neg h]
theorem tot_ge {z : Nat → Nat} {mb : Nat → Bool} : ∀ (os : List Nat) (e : Nat), e ≤ tot z mb os e
  | [], e => Nat.le_refl _
  | b :: os, e => by
    refine Nat.le_trans ?_ (tot_ge os (if mb b then e + z b else e))
    by_cases h : mb b = true
    · rw [if_pos h]; omega
    · rw [if_neg h]; omega
theorem psi_ge {z : Nat → Nat} {mb : Nat → Bool} : ∀ (os : List Nat) (e a : Nat), e ≤ psi z mb os e a
  | [], e, a => Nat.le_refl _
  | b :: os, e, a => by
    by_cases h : a = b
    · subst h; rw [psi_hd]; exact Nat.le_refl _
    · rw [psi_tl h]
      refine Nat.le_trans ?_ (psi_ge os (if mb b then e + z b else e) a)
      by_cases h : mb b = true
      · rw [if_pos h]; omega
      · rw [if_neg h]; omega
/-- its place ends before the end -/
theorem psi_tot {z : Nat → Nat} {mb : Nat → Bool} : ∀ (os : List Nat) (e : Nat) {a : Nat}, a ∈ os → mb a = true → psi z mb os e a + z a ≤ tot z mb os e
  | [], e, a, ha, hm => nomatch ha
  | b :: os, e, a, ha, hm => by
    by_cases h : a = b
    · subst h
      rw [psi_hd]
      show _ ≤ tot z mb os (if mb a then e + z a else e)
      rw [if_pos hm]
      exact tot_ge os _
    · rw [psi_tl h]
      exact psi_tot os _ (List.mem_of_ne_of_mem h ha) hm
/-- it slides down -/
theorem psi_le {f : Nat → Int32} {mb : Nat → Bool} : ∀ (os : List Nat) {a u e b : Nat}, Ch f a os u → e ≤ a → b ∈ os → psi (sz f) mb os e b ≤ b
  | [], a, u, e, b, h, he, hb => nomatch hb
  | c :: os, a, u, e, b, h, he, hb => by
    obtain ⟨e1, ho, h⟩ := h
    subst e1
    by_cases hbc : b = c
    · subst hbc; rw [psi_hd]; exact he
    · rw [psi_tl hbc]
      refine psi_le os h ?_ (List.mem_of_ne_of_mem hbc hb)
      by_cases hm : mb c = true
      · rw [if_pos hm]; omega
      · rw [if_neg hm]; omega
theorem tot_le {f : Nat → Int32} {mb : Nat → Bool} : ∀ (os : List Nat) {a u e : Nat}, Ch f a os u → e ≤ a → tot (sz f) mb os e ≤ u
  | [], a, u, e, h, he => by have : a = u := h; show e ≤ u; omega
  | c :: os, a, u, e, h, he => by
    obtain ⟨e1, ho, h⟩ := h
    subst e1
    refine tot_le os h ?_
    by_cases hm : mb c = true
    · rw [if_pos hm]; omega
    · rw [if_neg hm]; omega
/-- places lie apart, in the same order -/
theorem psi_sep {f : Nat → Int32} {mb : Nat → Bool} : ∀ (os : List Nat) {a u e b c : Nat}, Ch f a os u → b ∈ os → c ∈ os → mb b = true → b < c → psi (sz f) mb os e b + sz f b ≤ psi (sz f) mb os e c
  | [], a, u, e, b, c, h, hb, hc, hm, hl => nomatch hb
  | d :: os, a, u, e, b, c, h, hb, hc, hm, hl => by
    obtain ⟨e1, ho, h⟩ := h
    subst e1
    by_cases hcd : c = d
    · have h1 : b ∈ os := List.mem_of_ne_of_mem (by omega) hb
      have := (Ch_mem os h h1).1
      have := okO_3 ho
      omega
    · rw [psi_tl hcd]
      have hc1 := List.mem_of_ne_of_mem hcd hc
      by_cases hbd : b = d
      · subst hbd
        rw [psi_hd, if_pos hm]
        exact psi_ge os _ _
      · rw [psi_tl hbd]
        exact psi_sep os h (List.mem_of_ne_of_mem hbd hb) hc1 hm hl
def mbf (g : Nat → Int32) (a : Nat) : Bool := !decide (g (a + 1) = -1)
theorem mbf_t {g : Nat → Int32} {a : Nat} : mbf g a = true ↔ ¬ g (a + 1) = -1 := by unfold mbf; simp
theorem mbf_f {g : Nat → Int32} {a : Nat} : mbf g a = false ↔ g (a + 1) = -1 := by unfold mbf; simp
/-- the plan written into the heads -/
def plan (z : Nat → Nat) : List Nat → Nat → (Nat → Int32) → (Nat → Int32)
  | [], _, g => g
  | b :: os, e, g => if g (b + 1) = -1 then plan z os e g else plan z os (e + z b) (upd g (b + 1) (nI e))
theorem psi_congr {z : Nat → Nat} {mb mb' : Nat → Bool} : ∀ (os : List Nat) (e a : Nat), (∀ b ∈ os, mb b = mb' b) → psi z mb os e a = psi z mb' os e a
  | [], e, a, h => rfl
  | b :: os, e, a, h => by
    by_cases hb : a = b
    · subst hb; rw [psi_hd, psi_hd]
    · rw [psi_tl hb, psi_tl hb, h b List.mem_cons_self]
      exact psi_congr os _ a (fun c hc => h c (List.mem_cons_of_mem _ hc))
theorem tot_congr {z : Nat → Nat} {mb mb' : Nat → Bool} : ∀ (os : List Nat) (e : Nat), (∀ b ∈ os, mb b = mb' b) → tot z mb os e = tot z mb' os e
  | [], e, h => rfl
  | b :: os, e, h => by
    show tot z mb os (if mb b then e + z b else e) = tot z mb' os (if mb' b then e + z b else e)
    rw [h b List.mem_cons_self]
    exact tot_congr os _ (fun c hc => h c (List.mem_cons_of_mem _ hc))
theorem plan_out {z : Nat → Nat} : ∀ (os : List Nat) (e : Nat) (g : Nat → Int32) {x : Nat}, (∀ b ∈ os, x ≠ b + 1) → plan z os e g x = g x
  | [], e, g, x, h => rfl
  | b :: os, e, g, x, h => by
    show (if g (b + 1) = -1 then plan z os e g else plan z os (e + z b) (upd g (b + 1) (nI e))) x = _
    have h2 := fun c hc => h c (List.mem_cons_of_mem b hc)
    by_cases hg : g (b + 1) = -1
    · rw [if_pos hg]; exact plan_out os e g h2
    · rw [if_neg hg, plan_out os _ _ h2]
      unfold upd
      rw [if_neg (h b List.mem_cons_self)]
theorem plan_un {z : Nat → Nat} : ∀ (os : List Nat) (e : Nat) (g : Nat → Int32) {a : Nat}, os.Nodup → a ∈ os → g (a + 1) = -1 → plan z os e g (a + 1) = -1
  | [], e, g, a, hn, ha, hm => nomatch ha
  | b :: os, e, g, a, hn, ha, hm => by
    have hn1 := (List.nodup_cons.mp hn).1
    have hn2 := (List.nodup_cons.mp hn).2
    show (if g (b + 1) = -1 then plan z os e g else plan z os (e + z b) (upd g (b + 1) (nI e))) (a + 1) = _
    by_cases hab : a = b
    · subst hab
      rw [if_pos hm, plan_out os e g (fun c hc q => hn1 (by have h9 : c = a := (by omega); rw [← h9]; exact hc))]
      exact hm
    · have ha1 := List.mem_of_ne_of_mem hab ha
      by_cases hg : g (b + 1) = -1
      · rw [if_pos hg]; exact plan_un os e g hn2 ha1 hm
      · rw [if_neg hg]
        refine plan_un os _ _ hn2 ha1 ?_
        unfold upd
        rw [if_neg (by omega)]
        exact hm
theorem plan_at {z : Nat → Nat} : ∀ (os : List Nat) (e : Nat) (g : Nat → Int32) {a : Nat}, os.Nodup → a ∈ os → ¬ g (a + 1) = -1 → plan z os e g (a + 1) = nI (psi z (mbf g) os e a)
  | [], e, g, a, hn, ha, hm => nomatch ha
  | b :: os, e, g, a, hn, ha, hm => by
    have hn1 := (List.nodup_cons.mp hn).1
    have hn2 := (List.nodup_cons.mp hn).2
    show (if g (b + 1) = -1 then plan z os e g else plan z os (e + z b) (upd g (b + 1) (nI e))) (a + 1) = _
    by_cases hab : a = b
    · subst hab
      rw [if_neg hm, psi_hd, plan_out os _ _ (fun c hc q => hn1 (by have h9 : c = a := (by omega); rw [← h9]; exact hc))]
      unfold upd
      rw [if_pos rfl]
    · have ha1 := List.mem_of_ne_of_mem hab ha
      rw [psi_tl hab]
      by_cases hg : g (b + 1) = -1
      · rw [if_pos hg, if_neg (by rw [mbf_f.mpr hg]; decide)]
        exact plan_at os e g hn2 ha1 hm
      · rw [if_neg hg, if_pos (mbf_t.mpr hg)]
        have hu : ∀ c, c ≠ b → upd g (b + 1) (nI e) (c + 1) = g (c + 1) := fun c hc => by unfold upd; rw [if_neg (by omega)]
        rw [plan_at os _ _ hn2 ha1 (by rw [hu a hab]; exact hm)]
        congr 1
        refine psi_congr os _ _ (fun c hc => ?_)
        have hcb : c ≠ b := fun q => hn1 (q ▸ hc)
        unfold mbf
        rw [hu c hcb]
/-- a step over an object: at least a head's words, and an object takes as many -/
theorem mx3 {z : Nat} (h : 3 ≤ z) (h2 : z < 2 ^ 31) : cIf ((3 : Int32) < nI z) (nI z) 3 = nI z := by
  show cIf (nI 3 < nI z) (nI z) (nI 3) = nI z
  by_cases e : z = 3
  · subst e
    exact cIf_f (nI_nlt (Nat.le_refl _) (by omega))
  · exact cIf_t (nI_lt (by omega) h2)
/-- the picture of planMoves over a chain's rest -/
theorem P_plan {F : Nat} {K : Int32 → Int32 → oS → Option (Int32 × oS)} {U : Nat} {z0 : Nat → Nat} : ∀ (os : List Nat) (n a e : Nat) (σ : oS), Ch (o_fw σ) a os U → o_us σ = nI U → U ≤ o_lw σ → o_lw σ ≤ 1048576 → e ≤ a → os.length < n → (∀ b ∈ os, z0 b = sz (o_fw σ) b) →
    LX0_planMoves_4 F K n (nI e) (nI a) σ = K (nI (tot z0 (mbf (o_fw σ)) os e)) (nI U) (o_s_fw σ (plan z0 os e (o_fw σ)))
  | [], n, a, e, σ, hC, hu, hU, hl, he, hn, hz => by
    obtain ⟨n, rfl⟩ : ∃ m, n = m + 1 := ⟨n - 1, by simp at hn; omega⟩
    have e1 : a = U := hC
    subst e1
    rw [LX0_planMoves_4, hu, cIf_t (nI_le (Nat.le_refl _) (by omega))]
    rfl
  | b :: os, n, a, e, σ, hC, hu, hU, hl, he, hn, hz => by
    obtain ⟨n, rfl⟩ : ∃ m, n = m + 1 := ⟨n - 1, by simp at hn; omega⟩
    simp only [List.length_cons] at hn
    obtain ⟨e1, ho, hC⟩ := hC
    subst e1
    have hb1 := Ch_le os hC
    have hb3 := okO_3 ho
    have hzb := hz b List.mem_cons_self
    have hnd : b ∉ os := fun q => by have := (Ch_mem os hC q).1; omega
    rw [LX0_planMoves_4, hu, cIf_f (nI_ge (by omega) (by omega)), nI_1, ck_t (vp_in_nI (by omega) (by omega)), nI_clamp (by omega)]
    show cIf (o_fw σ (b + 1) = -1) _ _ = _
    by_cases hm : o_fw σ (b + 1) = -1
    · rw [cIf_t hm, P_sizeAt (by omega) (by omega) ho.1]
      show LX0_planMoves_4 F K n (nI e) (nI b + cIf ((3 : Int32) < nI (sz (o_fw σ) b)) (nI (sz (o_fw σ) b)) 3) σ = _
      rw [mx3 (by omega) (by omega), nI_add, P_plan os n (b + sz (o_fw σ) b) e σ hC hu hU hl (by omega) (by omega) (fun c hc => hz c (List.mem_cons_of_mem _ hc))]
      show _ = K (nI (tot z0 (mbf (o_fw σ)) os (if mbf (o_fw σ) b then e + z0 b else e))) (nI U) (o_s_fw σ (if o_fw σ (b + 1) = -1 then plan z0 os e (o_fw σ) else _))
      rw [if_pos hm, if_neg (by rw [mbf_f.mpr hm]; decide)]
    · rw [cIf_f hm, ck_t (vp_in_nI (by omega) (by omega))]
      have hup : ∀ c ∈ os, upd (o_fw σ) (b + 1) (nI e) c = o_fw σ c := fun c hc => by
        have := (Ch_mem os hC hc).1
        unfold upd
        rw [if_neg (by omega)]
      have hub : upd (o_fw σ) (b + 1) (nI e) b = o_fw σ b := by unfold upd; rw [if_neg (by omega)]
      obtain ⟨σ9, h9⟩ : ∃ s9, s9 = o_s_fw σ (upd (o_fw σ) (b + 1) (nI e)) := ⟨_, rfl⟩
      have hf9 : o_fw σ9 = upd (o_fw σ) (b + 1) (nI e) := by rw [h9]; rfl
      have hlw9 : o_lw σ9 = o_lw σ := by rw [h9]; rfl
      have hus9 : o_us σ9 = o_us σ := by rw [h9]; rfl
      show nmd (o_s_fw σ (upd (o_fw σ) (b + 1) (nI e))) _ = _
      rw [← h9]
      show bnd (fX0_sizeAt F σ9 (nI b)) _ = _
      have hs9 : fX0_sizeAt F σ9 (nI b) = some (nI (sz (o_fw σ) b), σ9) := by
        rw [P_sizeAt (by omega) (by omega) (by rw [hf9]; exact (okO_congr hub ho).1), hf9, sz_congr hub]
      rw [hs9]
      show bnd (fX0_sizeAt F σ9 (nI b)) _ = _
      rw [hs9]
      show LX0_planMoves_4 F K n (nI e + nI (sz (o_fw σ) b)) (nI b + cIf ((3 : Int32) < nI (sz (o_fw σ) b)) (nI (sz (o_fw σ) b)) 3) σ9 = _
      rw [mx3 (by omega) (by omega), nI_add, nI_add, P_plan (z0 := z0) os n (b + sz (o_fw σ) b) (e + sz (o_fw σ) b) σ9 (by rw [hf9]; exact Ch_congr os hup hC) (hus9.trans hu) (by omega) (by omega) (by omega) (by omega) (fun c hc => by rw [hf9, sz_congr (hup c hc)]; exact hz c (List.mem_cons_of_mem _ hc))]
      show _ = K (nI (tot z0 (mbf (o_fw σ)) os (if mbf (o_fw σ) b then e + z0 b else e))) (nI U) (o_s_fw σ (if o_fw σ (b + 1) = -1 then _ else plan z0 os (e + z0 b) (upd (o_fw σ) (b + 1) (nI e))))
      rw [if_neg hm, if_pos (mbf_t.mpr hm), hzb, hf9]
      have e5 : tot z0 (mbf (upd (o_fw σ) (b + 1) (nI e))) os (e + sz (o_fw σ) b) = tot z0 (mbf (o_fw σ)) os (e + sz (o_fw σ) b) := tot_congr os _ (fun c hc => by
        unfold mbf upd
        rw [if_neg (fun q => hnd (by have h9 : c = b := (by omega); rw [← h9]; exact hc))])
      rw [e5, h9]
      rfl
