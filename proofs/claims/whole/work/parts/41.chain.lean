/-! the row of words as a chain of objects -/
def okO (f : Nat → Int32) (a : Nat) : Prop := okW f a ∧ 3 + lk f a + 2 * vl f a ≤ sz f a
def Ch (f : Nat → Int32) : Nat → List Nat → Nat → Prop
  | a, [], u => a = u
  | a, b :: os, u => b = a ∧ okO f a ∧ Ch f (a + sz f a) os u
theorem wN_congr {f g : Nat → Int32} {a : Nat} (h : g a = f a) : wN g a = wN f a := by unfold wN; rw [h]
theorem sz_congr {f g : Nat → Int32} {a : Nat} (h : g a = f a) : sz g a = sz f a := by unfold sz; rw [wN_congr h]
theorem lk_congr {f g : Nat → Int32} {a : Nat} (h : g a = f a) : lk g a = lk f a := by unfold lk; rw [wN_congr h]
theorem vl_congr {f g : Nat → Int32} {a : Nat} (h : g a = f a) : vl g a = vl f a := by unfold vl; rw [wN_congr h]
theorem kd_congr {f g : Nat → Int32} {a : Nat} (h : g a = f a) : kd g a = kd f a := by unfold kd; rw [wN_congr h]
theorem okO_congr {f g : Nat → Int32} {a : Nat} (h : g a = f a) (ho : okO f a) : okO g a := by
  refine ⟨⟨by rw [wN_congr h, h]; exact ho.1.1, by rw [wN_congr h]; exact ho.1.2⟩, ?_⟩
  rw [lk_congr h, vl_congr h, sz_congr h]
  exact ho.2
theorem Ch_le {f : Nat → Int32} : ∀ (os : List Nat) {a u : Nat}, Ch f a os u → a ≤ u
  | [], a, u, h => Nat.le_of_eq h
  | b :: os, a, u, h => Nat.le_trans (Nat.le_add_right a (sz f a)) (Ch_le os h.2.2)
theorem Ch_mem {f : Nat → Int32} : ∀ (os : List Nat) {a u b : Nat}, Ch f a os u → b ∈ os → a ≤ b ∧ b + sz f b ≤ u ∧ okO f b
  | [], a, u, b, h, hb => nomatch hb
  | c :: os, a, u, b, h, hb => by
    obtain ⟨e, ho, h⟩ := h
    subst e
    rcases List.mem_cons.mp hb with e | hb
    · subst e
      exact ⟨Nat.le_refl _, Ch_le os h, ho⟩
    · obtain ⟨h1, h2, h3⟩ := Ch_mem os h hb
      exact ⟨Nat.le_trans (Nat.le_add_right _ _) h1, h2, h3⟩
theorem okO_3 {f : Nat → Int32} {a : Nat} (h : okO f a) : 3 ≤ sz f a := by have := h.2; omega
/-- objects lie apart -/
theorem Ch_sep {f : Nat → Int32} : ∀ (os : List Nat) {a u b c : Nat}, Ch f a os u → b ∈ os → c ∈ os → b < c → b + sz f b ≤ c
  | [], a, u, b, c, h, hb, hc, hl => nomatch hb
  | d :: os, a, u, b, c, h, hb, hc, hl => by
    obtain ⟨e, ho, h⟩ := h
    subst e
    rcases List.mem_cons.mp hb with e | hb1
    · rcases List.mem_cons.mp hc with e2 | hc1
      · omega
      · rw [e]
        exact (Ch_mem os h hc1).1
    · rcases List.mem_cons.mp hc with e2 | hc1
      · have := (Ch_mem os h hb1).1
        omega
      · exact Ch_sep os h hb1 hc1 hl
theorem Ch_congr {f g : Nat → Int32} : ∀ (os : List Nat) {a u : Nat}, (∀ b ∈ os, g b = f b) → Ch f a os u → Ch g a os u
  | [], a, u, hg, h => h
  | b :: os, a, u, hg, h => by
    obtain ⟨e, ho, h⟩ := h
    subst e
    have e1 := hg b List.mem_cons_self
    refine ⟨rfl, okO_congr e1 ho, ?_⟩
    rw [sz_congr e1]
    exact Ch_congr os (fun c hc => hg c (List.mem_cons_of_mem _ hc)) h
theorem Ch_len {f : Nat → Int32} : ∀ (os : List Nat) {a u : Nat}, Ch f a os u → a + 3 * os.length ≤ u
  | [], a, u, h => by have : a = u := h; simp; omega
  | b :: os, a, u, h => by
    obtain ⟨e, ho, h⟩ := h
    subst e
    have h1 := Ch_len os h
    have h2 := okO_3 ho
    simp only [List.length_cons]
    omega
/-- the same but for the two words in each head that a collection uses -/
def SM (os : List Nat) (f g : Nat → Int32) : Prop := ∀ x, (∀ b ∈ os, x ≠ b + 1 ∧ x ≠ b + 2) → g x = f x
theorem SM.rf {os : List Nat} {f : Nat → Int32} : SM os f f := fun _ _ => rfl
theorem SM.tr {os : List Nat} {f g h : Nat → Int32} (h1 : SM os f g) (h2 : SM os g h) : SM os f h := fun x hx => (h2 x hx).trans (h1 x hx)
theorem SM.up {os : List Nat} {f g : Nat → Int32} {b : Nat} {v : Int32} (h : SM os f g) (hb : b ∈ os) {k : Nat} (hk : k = b + 1 ∨ k = b + 2) : SM os f (upd g k v) := by
  intro x hx
  have := hx b hb
  have hne : x ≠ k := by rcases hk with e | e <;> (subst e; first | exact this.1 | exact this.2)
  unfold upd
  rw [if_neg hne]
  exact h x hx
theorem Ch_far {f : Nat → Int32} {os : List Nat} {a u c i : Nat} (h : Ch f a os u) (hc : c ∈ os) (hi : i = 0 ∨ (3 ≤ i ∧ i < sz f c)) : ∀ b ∈ os, c + i ≠ b + 1 ∧ c + i ≠ b + 2 := by
  intro b hb
  have h3 := okO_3 (Ch_mem os h hb).2.2
  have h4 := okO_3 (Ch_mem os h hc).2.2
  rcases Nat.lt_trichotomy b c with hl | hl | hl
  · have := Ch_sep os h hb hc hl
    omega
  · subst hl
    omega
  · have := Ch_sep os h hc hb hl
    omega
theorem SM.hd {f g : Nat → Int32} {os : List Nat} {a u c : Nat} (hs : SM os f g) (h : Ch f a os u) (hc : c ∈ os) : g c = f c := hs c (Ch_far h hc (Or.inl rfl))
theorem SM.pay {f g : Nat → Int32} {os : List Nat} {a u c i : Nat} (hs : SM os f g) (h : Ch f a os u) (hc : c ∈ os) (h3 : 3 ≤ i) (hi : i < sz f c) : g (c + i) = f (c + i) := hs (c + i) (Ch_far h hc (Or.inr ⟨h3, hi⟩))
theorem SM.Ch {f g : Nat → Int32} {os : List Nat} {a u : Nat} (hs : SM os f g) (h : Ch f a os u) : Ch g a os u := Ch_congr os (fun _ hb => hs.hd h hb) h
/-- what an object leads to -/
def chd (f : Nat → Int32) (a : Nat) (x : Int32) : Prop := (∃ i, i < lk f a ∧ f (a + 3 + i) = x) ∨ ∃ j, j < vl f a ∧ isR (f (a + 3 + lk f a + 2 * j)) ∧ f (a + 3 + lk f a + 2 * j + 1) = x
/-- every lead leads nowhere or to an object -/
def PV (f : Nat → Int32) (os : List Nat) (fr : Nat → Int32) : Prop := (∀ a ∈ os, ∀ x, chd f a x → x = -1 ∨ ∃ b ∈ os, x = nI b) ∧ ∀ r, r < 24 → fr r = -1 ∨ ∃ b ∈ os, fr r = nI b
/-- a root leads to it -/
def Rch (f : Nat → Int32) (os : List Nat) (fr : Nat → Int32) (a : Nat) : Prop := ∀ S : Nat → Prop, (∀ r, r < 24 → ∀ b ∈ os, fr r = nI b → S b) → (∀ b ∈ os, S b → ∀ c ∈ os, chd f b (nI c) → S c) → S a
theorem Rch_root {f : Nat → Int32} {os : List Nat} {fr : Nat → Int32} {r b : Nat} (hr : r < 24) (hb : b ∈ os) (h : fr r = nI b) : Rch f os fr b := fun S h1 _ => h1 r hr b hb h
theorem Rch_step {f : Nat → Int32} {os : List Nat} {fr : Nat → Int32} {b c : Nat} (h : Rch f os fr b) (hb : b ∈ os) (hc : c ∈ os) (hx : chd f b (nI c)) : Rch f os fr c := fun S h1 h2 => h2 b hb (h S h1 h2) c hc hx
theorem chd_SM {f g : Nat → Int32} {os : List Nat} {a u c : Nat} (hs : SM os f g) (h : Ch f a os u) (hc : c ∈ os) {x : Int32} : chd g c x ↔ chd f c x := by
  have e0 := hs.hd h hc
  have ho := (Ch_mem os h hc).2.2
  have hsz := ho.2
  unfold chd
  rw [lk_congr e0, vl_congr e0]
  have key : ∀ i, 3 ≤ i → i < sz f c → g (c + i) = f (c + i) := fun i h3 hi => hs.pay h hc h3 hi
  constructor
  · rintro (⟨i, hi, e⟩ | ⟨j, hj, e1, e2⟩)
    · exact Or.inl ⟨i, hi, by rw [← e, show c + 3 + i = c + (3 + i) by omega, key (3 + i) (by omega) (by omega)]⟩
    · refine Or.inr ⟨j, hj, ?_, ?_⟩
      · rw [show c + 3 + lk f c + 2 * j = c + (3 + lk f c + 2 * j) by omega] at e1 ⊢
        rw [← key _ (by omega) (by omega)]; exact e1
      · rw [show c + 3 + lk f c + 2 * j + 1 = c + (3 + lk f c + 2 * j + 1) by omega] at e2 ⊢
        rw [← key _ (by omega) (by omega)]; exact e2
  · rintro (⟨i, hi, e⟩ | ⟨j, hj, e1, e2⟩)
    · exact Or.inl ⟨i, hi, by rw [← e, show c + 3 + i = c + (3 + i) by omega, key (3 + i) (by omega) (by omega)]⟩
    · refine Or.inr ⟨j, hj, ?_, ?_⟩
      · rw [show c + 3 + lk f c + 2 * j = c + (3 + lk f c + 2 * j) by omega] at e1 ⊢
        rw [key _ (by omega) (by omega)]; exact e1
      · rw [show c + 3 + lk f c + 2 * j + 1 = c + (3 + lk f c + 2 * j + 1) by omega] at e2 ⊢
        rw [key _ (by omega) (by omega)]; exact e2
