/-! the law's cases: one call each -/
theorem pot_le {σ : oS} {μ : mS} {M : Nat} (h : Sm σ μ M) : pot σ ≤ 5242880 := by
  obtain ⟨os, U, nl, R, hS⟩ := h
  obtain ⟨L, l1, l2, l3, l4, l5⟩ := hS.1.2.2.2.2.2.2.2.2.1
  have h1 := hS.1.2.2.2.1.2.2.1
  unfold pot
  split <;> omega
theorem oOut_cmp {α : Type} {v : α → Int64} {r : Int32 ⊕ α} {fo : Nat → Int64} {y : Int64} (h0 : xC r = 0) (h : ∀ a, r = .inr a → v a = y) : lg_cmp (oOut v r fo (0 : Int32).toNatClampNeg) y = 0 := by
  cases r with
  | inl k =>
    exfalso
    have h1 : (if k = 1 then (1 : Int32) else 2) = 0 := h0
    split at h1
    · exact absurd h1 (by decide)
    · exact absurd h1 (by decide)
  | inr a =>
    have e : oOut v (.inr a) fo (0 : Int32).toNatClampNeg = y := by
      show vp_updL fo 0 (v a) 0 = y
      rw [pk_uLs]
      exact h a rfl
    rw [e]
    exact (lg_cmp_eq y y).mpr rfl
theorem in129 : Cond.constantLong RL 129 4294967295 ∈ wsL_law := by decide +kernel
section LK
variable {p : Program} {l : Launch} {e : Env} {s : State} {m : MethodId} {below : List Frame} {meth : Method} {c : Code} {Q : State → Prop} {b L : Nat} {xs : Nat → Int32} {A : Nat → Prop} {G : gT} {h0 m0 ho : Nat} {mh : Nat → Nat} {F i j : Nat}
def LCx (p : Program) (l : Launch) (s : State) (m : MethodId) (c : Code) (b L : Nat) (xs : Nat → Int32) (A : Nat → Prop) (G : gT) : Prop := CallFix p m c cL_law 8 s #[Value.ref b] wsL_law RL ∧ gK G s ∧ (∀ q, s.heap.size ≤ q → A q) ∧ ¬ A b ∧ xZ A s s.heap ∧ va_Nc "java/lang/IllegalStateException" "java/lang/IllegalArgumentException" s ∧ va_X b L xs s s.heap ∧ b < s.heap.size ∧ L ≤ 2561 ∧ l.stackTraces = false
/-- from here the law goes on, with j calls done -/
def KN (p : Program) (l : Launch) (e : Env) (s : State) (m : MethodId) (below : List Frame) (meth : Method) (c : Code) (b : Nat) (A : Nat → Prop) (G : gT) (h0 m0 ho : Nat) (mh : Nat → Nat) (Q : State → Prop) (pc i j : Nat) : Prop := ∀ (h : oH) (σ : oS) (μ : mS) (fo : Nat → Int64) (M Cc Nn : Nat) (H : Heap) (locs : List Loc) (ls : Array Slot), lI s A G h0 h σ m0 mh μ ho fo H locs → Sm σ μ M → M ≤ 1 + 2 * j → Cc ≤ 30 + 6 * j → Nn ≤ 220000 + 12 * j + pot σ → lv_has ls 8 [(0, .ref b), (1, .ref h0), (2, .ref m0), (3, .ref ho), (4, .int (nI i))] → W p l e room_1 s m #[Value.ref b] below meth c H locs Cc Nn Q (F0 m pc ls [])
/-- an int of the script -/
theorem l_arg {H : Heap} {locs : List Loc} {cells slots : Nat} {R : Room} {ls : Array Slot} {rest : List Value} {pc k : Nat} {kk : Int} (hx : p.tables.exec = Jvm.exec) (hb : c.code = cL_law) (hX : va_X b L xs s s.heap) (hbl : b < s.heap.size) (hbA : ¬ A b) (hS : va_S A s.heap H locs) (a0 : ls[0]? = some (.val (.ref b))) (a4 : ls[4]? = some (.val (.int (nI i)))) (hk : Int32.ofInt kk = nI k) (hi : i + k < L) (hL : L ≤ 2561)
    (d0 : decode cL_law pc = .ok (.aload_n 0, 1)) (d1 : decode cL_law (pc + 1) = .ok (.iload 4, 2)) (d2 : decode cL_law (pc + 3) = .ok (.iconst kk, 1)) (d3 : decode cL_law (pc + 4) = .ok (.iadd, 1)) (d4 : decode cL_law (pc + 5) = .ok (.iaload, 1))
    (K : W p l e R s m #[Value.ref b] below meth c H locs cells slots Q (F0 m (pc + 6) ls (.int (xs (i + k)) :: rest))) : W p l e R s m #[Value.ref b] below meth c H locs cells slots Q (F0 m pc ls rest) := by
  refine lv_aload_n hx hb d0 rfl a0 ?_
  refine lv_iload hx hb d1 a4 ?_
  refine lv_iconst (v := nI k) hx hb d2 hk ?_
  refine lv_iadd hx hb d3 ?_
  rw [nI_add]
  refine va_sld hx hb hX hbl hbA hS (vp_in_nI hi (by omega)) d4 ?_
  rw [nI_clamp (by omega)]
  exact K
end LK
