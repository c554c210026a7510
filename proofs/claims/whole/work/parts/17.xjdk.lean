/-! fill and copyOf called by the class: parts of its world lent to the callee -/
theorem nI_back {x : Int32} (h : ¬ x < 0) : nI x.toNatClampNeg = x := by
  obtain ⟨j, hj, e1⟩ := nI_of h
  subst e1
  rw [nI_clamp hj]
section XJ
variable {p : Program} {l : Launch} {e : Env} {R : Room} {s : State} {m : MethodId} {args : Array Value} {below : List Frame} {meth : Method} {c : Code} {H : Heap} {locs : List Loc} {cells slots : Nat} {Q : State → Prop}
variable {cc : ByteArray} {pc : Nat} {ls : Array Slot} {rest : List Value} {A : Nat → Prop} {G : gT} {h0 : Nat} {nL : Nat} {Ts : List Cond} {h : oH} {σ σ1 : oS} {index mc ms : Nat}

theorem ox_fill (S : CallFix p m c cc nL s args Ts RX0) (hK : gK G s) (hA : ∀ q, s.heap.size ≤ q → A q) (hI : oI s A G h0 h σ H locs) {x y v : Int32} (hc : ¬ x < 0 ∧ x ≤ y ∧ y ≤ nI (o_lw σ) ∧ o_lw σ < 2147483648) (h1 : σ1 = o_s_fw σ (fillF (o_fw σ) x.toNatClampNeg y.toNatClampNeg v))
    (gd : GoodIn Ts (va_wsS RX0 index yJ7_fill_fda19 wsJ7_fill_fda19)) (hs : ls.size = nL) (hR : 2 ≤ R.frames ∧ 46 ≤ R.locals) (hf : cells + 0 ≤ R.cells ∧ slots + 0 ≤ R.slots) (hW : (rest.map fun v => v.category).sum ≤ 8) (hdg : decode cc pc = .ok (.invokestatic index, 3))
    (kk : ∀ (H1 : Heap) (locs1 : List Loc), oI s A G h0 h σ1 H1 locs1 → W p l e R s m args below meth c H1 locs1 (cells + 0) (slots + 0) Q (F0 m (pc + 3) ls rest)) : W p l e R s m args below meth c H locs cells slots Q (F0 m pc ls (.int v :: .int y :: .int x :: .ref h.1 :: rest)) := by
  subst h1
  obtain ⟨hP, hD, hS⟩ := hI
  obtain ⟨c1, c2, c3, c4⟩ := hc
  have ex := nI_back c1
  have c5 : ¬ y < 0 := fun q => c1 (Int32.lt_of_le_of_lt c2 q)
  have ey := nI_back c5
  have b1 : x.toNatClampNeg < 2 ^ 31 := by have := Int32.toInt_lt x; show x.toInt.toNat < _; omega
  have b2 : y.toNatClampNeg < 2 ^ 31 := by have := Int32.toInt_lt y; show y.toInt.toNat < _; omega
  have l1 : x.toNatClampNeg ≤ y.toNatClampNeg := by rw [← ex, ← ey] at c2; exact (nI_leI b1 b2).mp c2
  have l2 : y.toNatClampNeg ≤ o_lw σ := by rw [← ey] at c3; exact (nI_leI b2 c4).mp c3
  have hPc := hP.sub (ws' := aw G h.1 (o_lw σ) (o_fw σ)) [1] rfl
  have hDc := hD.sub (ws' := aw G h.1 (o_lw σ) (o_fw σ)) [1] (by decide) rfl
  have hFc := va_free (wc := aw G h.1 (o_lw σ) (o_fw σ)) hD hS hA [1] rfl
  have hM := kJ7_fill4 l G h.1 (o_lw σ) H.size x.toNatClampNeg y.toNatClampNeg c4 l1 l2 (o_fw σ) v
  rw [ex, ey] at hM
  refine va_callv (va_runS (As := [.ref h.1, .int x, .int y, .int v]) (rest := rest) S hM (va_cwS 4 S.2.2.2.2 gd rfl rfl rfl nJ7_fill4 ⟨by show 1 + 1 ≤ _; omega, by show 8 + (5 + 11) + 22 ≤ _; omega⟩) ⟨aPre_blind, fun U hU hW => ⟨rfl, by rw [hU], by rw [hU]; exact hPc, gK.moved hW.alike hK, hDc.weaken (fun _ _ _ _ => trivial)⟩⟩ rfl rfl hs rfl (lv_room hW) hdg hf) hS (fun q _ h => hFc q h) hFc (fun u t H1 locs1 ht hvm hw hB hz1 hk1 hS => ?_)
  subst hw
  obtain ⟨hP1, hK1, hD1⟩ := hB
  rw [ht] at hP1
  obtain ⟨hP, hD⟩ := va_join (wr := [(h0, .inr (2, [.int (o_lim σ), .ref h.1, .int (o_us σ), .ref h.2.1, .ref h.2.2.1, .int (o_nc σ), .ref h.2.2.2, .int (o_wt σ), .int (o_st σ), .int (o_md σ)])), (h.2.1, .inl (G.2.1, 24, .inl (o_fr σ))), (h.2.2.1, .inl (G.2.1, o_ln σ, .inl (o_fn σ))), (h.2.2.2, .inl (G.2.1, 4000, .inl (o_fp σ)))]) (w1 := aw G h.1 (o_lw σ) (fillF (o_fw σ) x.toNatClampNeg y.toNatClampNeg v)) hP hD [1] [0, 2, 3, 4] rfl rfl (by decide) (by decide) hk1 hFc hP1 hD1
  exact kk H1 locs1 ⟨hP.sub [0, 4, 1, 2, 3] rfl, hD.sub [0, 4, 1, 2, 3] (by decide) rfl, hS⟩
theorem ox_growW (S : CallFix p m c cc nL s args Ts RX0) (hin : ∀ w ∈ wsX00, w ∈ Ts) (hK : gK G s) (hA : ∀ q, s.heap.size ≤ q → A q) (hI : oI s A G h0 h σ H locs) {x : Int32} {ix : Nat} (hc : ¬ x < 0 ∧ o_lw σ < x.toNatClampNeg ∧ x.toNatClampNeg ≤ 1048576) (h1 : σ1 = o_s_fw (o_s_lw σ x.toNatClampNeg) (grown (o_fw σ) (o_lw σ)))
    (gd : GoodIn Ts (va_wsS RX0 index yJ7_copyOf_59c91 wsJ7_copyOf_59c91)) (hm : Cond.fieldLink RX0 ix "OwnMemory" "words" "[I" ∈ Ts) (hs : ls.size = nL) (hR : 2 ≤ R.frames ∧ 62 ≤ R.locals) (hf : cells + 1 ≤ R.cells ∧ slots + x.toNatClampNeg ≤ R.slots) (hW : (rest.map fun v => v.category).sum ≤ 7) (hdg : decode cc pc = .ok (.invokestatic index, 3)) (hdg2 : decode cc (pc + 3) = .ok (.putfield ix, 3))
    (kk : ∀ (q : Nat) (H1 : Heap) (locs1 : List Loc), oI s A G h0 (q, h.2.1, h.2.2.1, h.2.2.2) σ1 H1 locs1 → W p l e R s m args below meth c H1 locs1 (cells + 1) (slots + x.toNatClampNeg) Q (F0 m (pc + 6) ls rest)) : W p l e R s m args below meth c H locs cells slots Q (F0 m pc ls (.int x :: .ref h.1 :: .ref h0 :: rest)) := by
  subst h1
  obtain ⟨hP, hD, hS⟩ := hI
  obtain ⟨c1, c2, c3⟩ := hc
  have ex := nI_back c1
  have hPc := hP.sub (ws' := aw G h.1 (o_lw σ) (o_fw σ)) [1] rfl
  have hDc := hD.sub (ws' := aw G h.1 (o_lw σ) (o_fw σ)) [1] (by decide) rfl
  have hFc := va_free (wc := aw G h.1 (o_lw σ) (o_fw σ)) hD hS hA [1] rfl
  have hM := kJ7_copyOf l G h.1 (o_lw σ) H.size x.toNatClampNeg c2 c3 (o_fw σ)
  rw [ex] at hM
  refine va_callr (va_runS (As := [.ref h.1, .int x]) (rest := .ref h0 :: rest) S hM (va_cwS 2 S.2.2.2.2 gd rfl rfl rfl nJ7_copyOf ⟨by show 1 + 1 ≤ _; omega, by show 8 + (3 + 11) + 40 ≤ _; omega⟩) ⟨aPre_blind, fun U hU hW => ⟨rfl, by rw [hU], by rw [hU]; exact hPc, gK.moved hW.alike hK, hDc.weaken (fun _ _ _ _ => trivial)⟩⟩ rfl rfl hs rfl (lv_room (by rw [List.map_cons, List.sum_cons]; show 1 + _ ≤ 8; omega)) hdg hf) hS (fun q _ h => hFc q h) hFc (fun u q t H1 locs1 ht hvm hw hB hz1 hk1 hS => ?_)
  subst hw
  obtain ⟨hP1, hK1, hD1⟩ := hB
  rw [ht] at hP1
  obtain ⟨hP, hD⟩ := va_join (wr := [(h0, .inr (2, [.int (o_lim σ), .ref h.1, .int (o_us σ), .ref h.2.1, .ref h.2.2.1, .int (o_nc σ), .ref h.2.2.2, .int (o_wt σ), .int (o_st σ), .int (o_md σ)])), (h.2.1, .inl (G.2.1, 24, .inl (o_fr σ))), (h.2.2.1, .inl (G.2.1, o_ln σ, .inl (o_fn σ))), (h.2.2.2, .inl (G.2.1, 4000, .inl (o_fp σ)))]) (w1 := [(h.1, .inl (G.2.1, o_lw σ, .inl (o_fw σ))), (q, .inl (G.2.1, x.toNatClampNeg, .inl (grown (o_fw σ) (o_lw σ))))]) hP hD [1] [0, 2, 3, 4] rfl rfl (by decide) (by decide) hk1 hFc hP1 hD1
  refine va_put (D := G.1) (ci := 2) (v := .ref q) (ty := .array .int) (C := RX0) (T := TX0) (N := 10) S.1 S.2.1 S.2.2.2.2 hin tyX0 tyX0_ok nmX0 S.2.2.2.1 hK hP hD hS 0 rfl rfl 1 (by decide) (S.2.2.2.2 _ hm) (fun _ h9 => h9) rfl (by decide +kernel) rfl rfl (Nat.le_of_ble_eq_true rfl) hdg2 (fun H locs hP hD hS => ?_)
  exact kk q H locs ⟨hP.sub [0, 5, 1, 2, 3] rfl, hD.sub [0, 5, 1, 2, 3] (by decide) rfl, hS⟩
theorem ox_growN (S : CallFix p m c cc nL s args Ts RX0) (hin : ∀ w ∈ wsX00, w ∈ Ts) (hK : gK G s) (hA : ∀ q, s.heap.size ≤ q → A q) (hI : oI s A G h0 h σ H locs) {x : Int32} {ix : Nat} (hc : ¬ x < 0 ∧ o_ln σ < x.toNatClampNeg ∧ x.toNatClampNeg ≤ 1048576) (h1 : σ1 = o_s_fn (o_s_ln σ x.toNatClampNeg) (grown (o_fn σ) (o_ln σ)))
    (gd : GoodIn Ts (va_wsS RX0 index yJ7_copyOf_59c91 wsJ7_copyOf_59c91)) (hm : Cond.fieldLink RX0 ix "OwnMemory" "names" "[I" ∈ Ts) (hs : ls.size = nL) (hR : 2 ≤ R.frames ∧ 62 ≤ R.locals) (hf : cells + 1 ≤ R.cells ∧ slots + x.toNatClampNeg ≤ R.slots) (hW : (rest.map fun v => v.category).sum ≤ 7) (hdg : decode cc pc = .ok (.invokestatic index, 3)) (hdg2 : decode cc (pc + 3) = .ok (.putfield ix, 3))
    (kk : ∀ (q : Nat) (H1 : Heap) (locs1 : List Loc), oI s A G h0 (h.1, h.2.1, q, h.2.2.2) σ1 H1 locs1 → W p l e R s m args below meth c H1 locs1 (cells + 1) (slots + x.toNatClampNeg) Q (F0 m (pc + 6) ls rest)) : W p l e R s m args below meth c H locs cells slots Q (F0 m pc ls (.int x :: .ref h.2.2.1 :: .ref h0 :: rest)) := by
  subst h1
  obtain ⟨hP, hD, hS⟩ := hI
  obtain ⟨c1, c2, c3⟩ := hc
  have ex := nI_back c1
  have hPc := hP.sub (ws' := aw G h.2.2.1 (o_ln σ) (o_fn σ)) [3] rfl
  have hDc := hD.sub (ws' := aw G h.2.2.1 (o_ln σ) (o_fn σ)) [3] (by decide) rfl
  have hFc := va_free (wc := aw G h.2.2.1 (o_ln σ) (o_fn σ)) hD hS hA [3] rfl
  have hM := kJ7_copyOf l G h.2.2.1 (o_ln σ) H.size x.toNatClampNeg c2 c3 (o_fn σ)
  rw [ex] at hM
  refine va_callr (va_runS (As := [.ref h.2.2.1, .int x]) (rest := .ref h0 :: rest) S hM (va_cwS 2 S.2.2.2.2 gd rfl rfl rfl nJ7_copyOf ⟨by show 1 + 1 ≤ _; omega, by show 8 + (3 + 11) + 40 ≤ _; omega⟩) ⟨aPre_blind, fun U hU hW => ⟨rfl, by rw [hU], by rw [hU]; exact hPc, gK.moved hW.alike hK, hDc.weaken (fun _ _ _ _ => trivial)⟩⟩ rfl rfl hs rfl (lv_room (by rw [List.map_cons, List.sum_cons]; show 1 + _ ≤ 8; omega)) hdg hf) hS (fun q _ h => hFc q h) hFc (fun u q t H1 locs1 ht hvm hw hB hz1 hk1 hS => ?_)
  subst hw
  obtain ⟨hP1, hK1, hD1⟩ := hB
  rw [ht] at hP1
  obtain ⟨hP, hD⟩ := va_join (wr := [(h0, .inr (2, [.int (o_lim σ), .ref h.1, .int (o_us σ), .ref h.2.1, .ref h.2.2.1, .int (o_nc σ), .ref h.2.2.2, .int (o_wt σ), .int (o_st σ), .int (o_md σ)])), (h.1, .inl (G.2.1, o_lw σ, .inl (o_fw σ))), (h.2.1, .inl (G.2.1, 24, .inl (o_fr σ))), (h.2.2.2, .inl (G.2.1, 4000, .inl (o_fp σ)))]) (w1 := [(h.2.2.1, .inl (G.2.1, o_ln σ, .inl (o_fn σ))), (q, .inl (G.2.1, x.toNatClampNeg, .inl (grown (o_fn σ) (o_ln σ))))]) hP hD [3] [0, 1, 2, 4] rfl rfl (by decide) (by decide) hk1 hFc hP1 hD1
  refine va_put (D := G.1) (ci := 2) (v := .ref q) (ty := .array .int) (C := RX0) (T := TX0) (N := 10) S.1 S.2.1 S.2.2.2.2 hin tyX0 tyX0_ok nmX0 S.2.2.2.1 hK hP hD hS 0 rfl rfl 4 (by decide) (S.2.2.2.2 _ hm) (fun _ h9 => h9) rfl (by decide +kernel) rfl rfl (Nat.le_of_ble_eq_true rfl) hdg2 (fun H locs hP hD hS => ?_)
  exact kk q H locs ⟨hP.sub [0, 1, 2, 5, 3] rfl, hD.sub [0, 1, 2, 5, 3] (by decide) rfl, hS⟩
end XJ
