/-! combinators of the pure pictures: a choice, a check, a name, a call -/
noncomputable def cIf {α : Type} (c : Prop) (a b : α) : α := @ite α c (Classical.propDecidable c) a b
theorem cIf_t {α : Type} {c : Prop} {a b : α} (h : c) : cIf c a b = a := by unfold cIf; exact if_pos h
theorem cIf_f {α : Type} {c : Prop} {a b : α} (h : ¬ c) : cIf c a b = b := by unfold cIf; exact if_neg h
theorem cIf_te {α : Type} {c : Prop} {a b r : α} (h : c) (hg : cIf c a b = r) : a = r := (cIf_t h).symm.trans hg
theorem cIf_fe {α : Type} {c : Prop} {a b r : α} (h : ¬ c) (hg : cIf c a b = r) : b = r := (cIf_f h).symm.trans hg
noncomputable def ck {β : Type} (c : Prop) (k : Option β) : Option β := cIf c k none
theorem ck_t {β : Type} {c : Prop} {k : Option β} (h : c) : ck c k = k := cIf_t h
theorem ck_e {β : Type} {c : Prop} {k : Option β} {r : β} (hg : ck c k = some r) : c ∧ k = some r := by
  unfold ck at hg
  by_cases h : c
  · exact ⟨h, cIf_te h hg⟩
  · rw [cIf_f h] at hg; cases hg
def nmd {α β : Type} (a : α) (k : α → β) : β := k a
theorem nmd_e {α β : Type} {a : α} {k : α → β} {r : β} (hg : nmd a k = r) : ∃ x, x = a ∧ k x = r := ⟨a, rfl, hg⟩
/-- a call with an answer and a state -/
def bnd {α σ β : Type} (x : Option (α × σ)) (k : α → σ → Option β) : Option β := match x with
  | none => none
  | some (a, t) => k a t
theorem bnd_e {α σ β : Type} {x : Option (α × σ)} {k : α → σ → Option β} {r : β} (hg : bnd x k = some r) : ∃ a t, x = some (a, t) ∧ k a t = some r := by
  cases x with
  | none => cases hg
  | some q => exact ⟨q.1, q.2, rfl, hg⟩
/-- a call with an answer alone -/
def bnp {α β : Type} (x : Option α) (k : α → Option β) : Option β := match x with
  | none => none
  | some a => k a
theorem bnp_e {α β : Type} {x : Option α} {k : α → Option β} {r : β} (hg : bnp x k = some r) : ∃ a, x = some a ∧ k a = some r := by
  cases x with
  | none => cases hg
  | some q => exact ⟨q, rfl, hg⟩
theorem sm_e {α : Type} {a b : α} (h : some a = some b) : a = b := Option.some.inj h
theorem pr_e {α β : Type} {a c : α} {b d : β} (h : some (a, b) = some (c, d)) : a = c ∧ b = d := ⟨congrArg Prod.fst (Option.some.inj h), congrArg Prod.snd (Option.some.inj h)⟩
/-- the tables of the worlds: classes, and the array classes of ints, longs, booleans -/
abbrev gT : Type := va_G × ClassId × ClassId × ClassId
def gK (G : gT) (U : State) : Prop := va_K G.1 vwCl [(G.2.1, .int), (G.2.2.1, .long), (G.2.2.2, .boolean)] U
theorem gK.moved {G : gT} {u U : State} (hvm : u.vm.Alike U.vm) (h : gK G u) : gK G U := va_K.moved hvm h
theorem in_ws {a : Cond} {l ws : List Cond} : ∀ w ∈ ws, w ∈ a :: (l ++ ws) := fun _ h => List.mem_cons_of_mem _ (List.mem_append_right _ h)
