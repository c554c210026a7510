/-! the collection's first part: what a root leads to is marked -/
theorem Ch_apart {f : Nat → Int32} {os : List Nat} {u a b : Nat} (h : Ch f 0 os u) (ha : a ∈ os) (hb : b ∈ os) (hne : a ≠ b) : a + 3 ≤ b ∨ b + 3 ≤ a := by
  have h1 := okO_3 (Ch_mem os h ha).2.2
  have h2 := okO_3 (Ch_mem os h hb).2.2
  rcases Nat.lt_or_gt_of_ne hne with hl | hl
  · have := Ch_sep os h ha hb hl
    omega
  · have := Ch_sep os h hb ha hl
    omega
/-- what a collection finds -/
def GI (σ : oS) (os : List Nat) (U : Nat) : Prop := Ch (o_fw σ) 0 os U ∧ U ≤ o_lw σ ∧ o_lw σ ≤ 1048576 ∧ PV (o_fw σ) os (o_fr σ)
def mkd (σ : oS) (a : Nat) : Prop := ¬ o_fw σ (a + 1) = -1
/-- the state, but for marks and the chain's head -/
def MSt (σ0 : oS) (os : List Nat) (σ : oS) : Prop := ∃ g w, σ = o_s_wt (o_s_fw σ0 g) w ∧ SM os (o_fw σ0) g
theorem MSt.sm {σ0 σ : oS} {os : List Nat} (h : MSt σ0 os σ) : SM os (o_fw σ0) (o_fw σ) := by obtain ⟨g, w, e, hs⟩ := h; subst e; exact hs
theorem MSt.lw {σ0 σ : oS} {os : List Nat} (h : MSt σ0 os σ) : o_lw σ = o_lw σ0 := by obtain ⟨g, w, e, hs⟩ := h; subst e; rfl
theorem MSt.fr {σ0 σ : oS} {os : List Nat} (h : MSt σ0 os σ) : o_fr σ = o_fr σ0 := by obtain ⟨g, w, e, hs⟩ := h; subst e; rfl
theorem MSt.rf {σ0 : oS} {os : List Nat} : MSt σ0 os σ0 := ⟨o_fw σ0, o_wt σ0, rfl, SM.rf⟩
theorem MSt.mark {σ0 σ : oS} {os : List Nat} {b : Nat} (h : MSt σ0 os σ) (hb : b ∈ os) : MSt σ0 os (mark σ b) := by
  obtain ⟨g, w, e, hs⟩ := h
  subst e
  exact ⟨upd (upd g (b + 1) (nI b)) (b + 2) w, nI b, rfl, (hs.up hb (Or.inl rfl)).up hb (Or.inr rfl)⟩
theorem MSt.wt {σ0 σ : oS} {os : List Nat} {x : Int32} (h : MSt σ0 os σ) : MSt σ0 os (o_s_wt σ x) := by
  obtain ⟨g, w, e, hs⟩ := h
  subst e
  exact ⟨g, x, rfl, hs⟩
def Chn (f : Nat → Int32) (os : List Nat) : Int32 → List Nat → Prop
  | w, [] => w = -1
  | w, a :: wl => w = nI a ∧ a ∈ os ∧ ¬ f (a + 1) = -1 ∧ Chn f os (f (a + 2)) wl
theorem Chn_congr {f g : Nat → Int32} {os : List Nat} : ∀ (wl : List Nat) {w : Int32}, (∀ a ∈ os, ¬ f (a + 1) = -1 → g (a + 1) = f (a + 1) ∧ g (a + 2) = f (a + 2)) → Chn f os w wl → Chn g os w wl
  | [], w, hg, h => h
  | a :: wl, w, hg, h => by
    obtain ⟨h1, h2, h3, h4⟩ := h
    obtain ⟨e1, e2⟩ := hg a h2 h3
    exact ⟨h1, h2, by rw [e1]; exact h3, by rw [e2]; exact Chn_congr wl hg h4⟩
/-- how many are not marked yet -/
def umk (f : Nat → Int32) (os : List Nat) : Nat := (os.filter (fun a => decide (f (a + 1) = -1))).length
theorem umk_step {f g : Nat → Int32} : ∀ (os : List Nat) {b : Nat}, os.Nodup → b ∈ os → f (b + 1) = -1 → ¬ g (b + 1) = -1 → (∀ a ∈ os, a ≠ b → g (a + 1) = f (a + 1)) → umk g os + 1 = umk f os
  | [], b, hn, hb, h1, h2, h3 => nomatch hb
  | c :: os, b, hn, hb, h1, h2, h3 => by
    have hn1 := (List.nodup_cons.mp hn).1
    have hn2 := (List.nodup_cons.mp hn).2
    rcases List.mem_cons.mp hb with e | hb1
    · subst e
      have hz : umk g os = umk f os := by
        unfold umk
        congr 1
        apply List.filter_congr
        intro a ha
        have hne : a ≠ b := fun q => hn1 (q ▸ ha)
        rw [h3 a (List.mem_cons_of_mem _ ha) hne]
      unfold umk at hz ⊢
      rw [List.filter_cons_of_neg (by simpa using h2), List.filter_cons_of_pos (by simpa using h1), List.length_cons]
      omega
    · have hne : c ≠ b := fun q => hn1 (q ▸ hb1)
      have ih := umk_step os hn2 hb1 h1 h2 (fun a ha => h3 a (List.mem_cons_of_mem _ ha))
      have e1 := h3 c List.mem_cons_self hne
      unfold umk at ih ⊢
      by_cases hc : f (c + 1) = -1
      · rw [List.filter_cons_of_pos (by simpa [e1] using hc), List.filter_cons_of_pos (by simpa using hc), List.length_cons, List.length_cons]
        omega
      · rw [List.filter_cons_of_neg (by simpa [e1] using hc), List.filter_cons_of_neg (by simpa using hc)]
        exact ih
theorem Ch_nodup {f : Nat → Int32} : ∀ (os : List Nat) {a u : Nat}, Ch f a os u → os.Nodup
  | [], a, u, h => List.nodup_nil
  | b :: os, a, u, h => by
    obtain ⟨e, ho, h⟩ := h
    subst e
    refine List.nodup_cons.mpr ⟨fun q => ?_, Ch_nodup os h⟩
    have h1 := (Ch_mem os h q).1
    have h2 := okO_3 ho
    omega
/-- the invariant of the marking: c are those whose leads need not be marked yet, besides the chain wl -/
def MK (σ0 : oS) (os : List Nat) (σ : oS) (wl : List Nat) (c : Nat → Prop) : Prop :=
  MSt σ0 os σ ∧ Chn (o_fw σ) os (o_wt σ) wl ∧ (∀ a ∈ os, mkd σ a → Rch (o_fw σ0) os (o_fr σ0) a) ∧ ∀ a ∈ os, mkd σ a → a ∉ wl → ¬ c a → ∀ b ∈ os, chd (o_fw σ0) a (nI b) → mkd σ b
theorem mark_fw {σ : oS} {b x : Nat} (h1 : x ≠ b + 1) (h2 : x ≠ b + 2) : o_fw (mark σ b) x = o_fw σ x := by
  show upd (upd (o_fw σ) (b + 1) (nI b)) (b + 2) (o_wt σ) x = _
  unfold upd
  rw [if_neg h2, if_neg h1]
theorem mark_1 {σ : oS} {b : Nat} : o_fw (mark σ b) (b + 1) = nI b := by
  show upd (upd (o_fw σ) (b + 1) (nI b)) (b + 2) (o_wt σ) (b + 1) = _
  unfold upd
  rw [if_neg (by omega), if_pos rfl]
theorem mark_2 {σ : oS} {b : Nat} : o_fw (mark σ b) (b + 2) = o_wt σ := by
  show upd (upd (o_fw σ) (b + 1) (nI b)) (b + 2) (o_wt σ) (b + 2) = _
  unfold upd
  rw [if_pos rfl]
/-- a lead is looked at -/
theorem MK_touch {F : Nat} {σ0 σ : oS} {os : List Nat} {U : Nat} {wl : List Nat} {c : Nat → Prop} {x : Int32} (hG : GI σ0 os U) (hI : MK σ0 os σ wl c) (hx : x = -1 ∨ ∃ b ∈ os, x = nI b ∧ Rch (o_fw σ0) os (o_fr σ0) b) :
    ∃ σ' wl', fX0_touch F σ x 0 = some (x, σ') ∧ MK σ0 os σ' wl' c ∧ (∀ b ∈ os, x = nI b → mkd σ' b) ∧ (∀ a ∈ os, mkd σ a → mkd σ' a) ∧ umk (o_fw σ') os + wl'.length = umk (o_fw σ) os + wl.length := by
  obtain ⟨hC, hU, hl, hPV⟩ := hG
  obtain ⟨hM, hW, hR, hcl⟩ := hI
  have hlw := hM.lw
  rcases hx with e | ⟨b, hb, e, hRb⟩
  · subst e
    refine ⟨σ, wl, P_touch0, ⟨hM, hW, hR, hcl⟩, ?_, fun _ _ h => h, rfl⟩
    intro b hb q
    have := (Ch_mem os hC hb).2.1
    exact absurd q.symm (nI_nm1 (by omega))
  · subst e
    have hb2 := Ch_mem os hC hb
    have hb3 := okO_3 hb2.2.2
    by_cases hm : o_fw σ (b + 1) = -1
    · refine ⟨mark σ b, b :: wl, P_touch_new (by omega) (by omega) hm, ⟨hM.mark hb, ?_, ?_, ?_⟩, ?_, ?_, ?_⟩
      · refine ⟨rfl, hb, ?_, ?_⟩
        · rw [mark_1]; exact nI_nm1 (by omega)
        · rw [mark_2]
          refine Chn_congr wl (fun a ha hma => ?_) hW
          have hne : a ≠ b := fun q => hma (q ▸ hm)
          have := Ch_apart hC ha hb hne
          exact ⟨mark_fw (by omega) (by omega), mark_fw (by omega) (by omega)⟩
      · intro a ha hma
        by_cases hne : a = b
        · rw [hne]; exact hRb
        · have := Ch_apart hC ha hb hne
          refine hR a ha ?_
          unfold mkd at hma ⊢
          rw [mark_fw (by omega) (by omega)] at hma
          exact hma
      · intro a ha hma hnw hnc d hd hch
        have hne : a ≠ b := fun q => hnw (q ▸ List.mem_cons_self)
        have h1 := Ch_apart hC ha hb hne
        have hma2 : mkd σ a := by unfold mkd at hma ⊢; rw [mark_fw (by omega) (by omega)] at hma; exact hma
        have h2 := hcl a ha hma2 (fun q => hnw (List.mem_cons_of_mem _ q)) hnc d hd hch
        by_cases hdb : d = b
        · rw [hdb]; unfold mkd; rw [mark_1]; exact nI_nm1 (by omega)
        · have := Ch_apart hC hd hb hdb
          unfold mkd at h2 ⊢
          rw [mark_fw (by omega) (by omega)]
          exact h2
      · intro d hd q
        have hd2 := (Ch_mem os hC hd).2.1
        have e : b = d := nI_inj (by omega) (by omega) q
        subst e
        unfold mkd; rw [mark_1]; exact nI_nm1 (by omega)
      · intro a ha hma
        by_cases hne : a = b
        · rw [hne]; unfold mkd; rw [mark_1]; exact nI_nm1 (by omega)
        · have := Ch_apart hC ha hb hne
          unfold mkd at hma ⊢
          rw [mark_fw (by omega) (by omega)]
          exact hma
      · have := umk_step os (f := o_fw σ) (g := o_fw (mark σ b)) (Ch_nodup os hC) hb hm (by rw [mark_1]; exact nI_nm1 (by omega)) (fun a ha hne => by
          have := Ch_apart hC ha hb hne
          exact mark_fw (by omega) (by omega))
        simp only [List.length_cons]
        omega
    · refine ⟨σ, wl, P_touch_old (by omega) (by omega) hm, ⟨hM, hW, hR, hcl⟩, ?_, fun _ _ h => h, rfl⟩
      intro d hd q
      have hd2 := (Ch_mem os hC hd).2.1
      have e : b = d := nI_inj (by omega) (by omega) q
      subst e
      exact hm
