/-! whole_start -/
theorem lw_gK {s : State} {args : Array Value} (hts : ∀ w ∈ lw_tbl, w.before args s = true) : ∃ G : gT, gK G s := by
  obtain ⟨c0, i0, k0⟩ := u_known (C := RJ0) (T := TJ0) (N := 4) (n := 4) hts inJ0' (hts _ lw_t2.1)
  obtain ⟨c1, i1, k1⟩ := u_known (C := RJ4) (T := TJ4) (N := 4) (n := 4) hts inJ4 (hts _ lw_t2.2.1)
  obtain ⟨c2, i2, k2⟩ := u_known (C := RX0) (T := TX0) (N := 10) (n := 10) hts inX0 (hts _ lw_t2.2.2.1)
  obtain ⟨c3, i3, k3⟩ := u_known (C := RX1) (T := TX1) (N := 21) (n := 21) hts inX1 (hts _ lw_t2.2.2.2)
  obtain ⟨a1, b1, b2⟩ := arr_of (Or.inl rfl) (hts _ lw_t3.1)
  obtain ⟨a2, b3, b4⟩ := arr_of (Or.inr (Or.inl rfl)) (hts _ lw_t3.2.1)
  obtain ⟨a3, b5, b6⟩ := arr_of (Or.inr (Or.inr rfl)) (hts _ lw_t3.2.2)
  refine ⟨((fun k => if k = 0 then c0 else if k = 1 then c1 else if k = 2 then c2 else c3, fun k => if k = 0 then i0 else if k = 1 then i1 else if k = 2 then i2 else i3), a1, a2, a3), fun k q hq => ?_, fun k q hq => ?_⟩
  · match k, hq with
    | 0, hq => cases hq; exact k0
    | 1, hq => cases hq; exact k1
    | 2, hq => cases hq; exact k2
    | 3, hq => cases hq; exact k3
    | k + 4, hq => exact absurd hq (by simp [vwCl])
  · match k, hq with
    | 0, hq => cases hq; exact ⟨b1, b2⟩
    | 1, hq => cases hq; exact ⟨b3, b4⟩
    | 2, hq => cases hq; exact ⟨b5, b6⟩
    | k + 3, hq => exact absurd hq (by simp)
theorem lw_xZ {s : State} {args : Array Value} {G : gT} (hK : gK G s) (hts : ∀ w ∈ lw_tbl, w.before args s = true) (hgv : (Jvm.Cond.and given_1 narrow_1).before args s = true) : xZ (fun q : Nat => s.heap.size ≤ q) s s.heap := by
  have hA0 : ∀ a : Nat, a < s.heap.size → ¬ (fun q : Nat => s.heap.size ≤ q) a := fun a h => Nat.not_le.mpr h
  have hg := flat_of_before _ hgv
  refine ⟨vx_Zqof (hts _ lw_t1.1) (hts _ lw_t1.2.2) (hg _ lw_g1) hA0, vx_Zqof (hts _ lw_t1.2.1) (hts _ lw_t1.2.2) (hg _ lw_g2) hA0, fun q hq => ?_, fun w hw => ?_⟩
  · obtain ⟨-, -, -, sa, -, -, -, -, -, hev⟩ := Cond.stringRef_spec (hK.1 2 _ rfl).2.1 (hts _ (tx_in q hq))
    exact ⟨sa, vk_R.of (hts _ (tx_in q hq)) hev⟩
  · exact vx_ot_at (State.WarmedH.refl s) rfl (xb_ot w hw) (hts w (xb_in w hw))
set_option maxHeartbeats 8000000 in
set_option maxRecDepth 100000 in
theorem whole_start {p : Program} {e : Env} {s : State} {m : MethodId} {below : List Frame} {meth : Method} {c : Code} (l : Launch) (htr : l.stackTraces = false) {b L : Nat} {xs : Nat → Int32} (hL : L ≤ 2561) (C0 : lw_At p s m meth c b L xs) : W p l e room_1 s m #[Value.ref b] below meth c s.heap [] 0 0 (lw_Z below #[Value.ref b] s) (entryFrame m ([Value.ref b] : List Value).toArray 8) := by
  obtain ⟨hx, hb, hr, hml, hown, hts0, hX, hbl, hlocks, hgv⟩ := id C0
  have hts : ∀ w ∈ wsL_law, w.before #[Value.ref b] s = true := fun w h => hts0 w (wsL_law_in w h)
  have hA : ∀ q : Nat, s.heap.size ≤ q → (fun q : Nat => s.heap.size ≤ q) q := fun _ h => h
  have hbA : ¬ (fun q : Nat => s.heap.size ≤ q) b := Nat.not_le.mpr hbl
  obtain ⟨F, hF⟩ : ∃ F : Nat, 1048600 < F := ⟨1048601, by omega⟩
  obtain ⟨G, hK⟩ := lw_gK hts0
  have hZ := lw_xZ hK hts0 hgv
  have hNc := va_Nc.of (flat_of_before _ hgv _ lw_g3)
  have S : CallFix p m c cL_law 8 s #[Value.ref b] wsL_law RL := ⟨hx, hb, hml, hown, hts⟩
  have hS : va_S (fun q : Nat => s.heap.size ≤ q) s.heap s.heap [] := va_S.rf
  have hP : va_P G.1 vwCl [] s.heap := fun k q h => by simp at h
  have hD : va_D (fun q : Nat => s.heap.size ≤ q) [] := ⟨fun i j p q h => by simp at h, fun k q h => by simp at h⟩
  have hl := lv_entry ([.ref b]) (n := 8) (Nat.le_of_ble_eq_true rfl)
  rw [lg_entry_eq]
  generalize (lg_sl ([.ref b]) ++ List.replicate (8 - (lg_sl ([.ref b])).length) Slot.unset).toArray = ls at hl ⊢
  have hl : lv_has ls 8 [(0, .ref b)] := hl
  refine va_new (ci := 2) (fs := x0Obj) (C := RX0) (T := TX0) (N := 10) hx hb hts0 inX0 tyX0 tyX0_ok hown (hts0 _ lw_t4.1) (hts0 _ lw_t2.2.2.1) (hts0 _ lw_t4.2.2.1) hK hP hD hS hA rfl (fun j hj => by rcases (show j = 0 ∨ j = 1 ∨ j = 2 ∨ j = 3 ∨ j = 4 ∨ j = 5 ∨ j = 6 ∨ j = 7 ∨ j = 8 ∨ j = 9 by omega) with rfl | rfl | rfl | rfl | rfl | rfl | rfl | rfl | rfl | rfl <;> rfl) (Nat.le_of_ble_eq_true rfl) (Nat.le_of_ble_eq_true rfl) dL_law_0 (fun q0 H hP hD hS => ?_)
  have hP : va_P G.1 vwCl (iw q0 2 x0Obj) H := hP
  have hD : va_D (fun q : Nat => s.heap.size ≤ q) (iw q0 2 x0Obj) := hD
  refine lv_dup hx hb dL_law_3 rfl ?_
  refine lv_aload_n hx hb dL_law_4 rfl (lv_at hl 0 rfl) ?_
  refine lv_iconst (v := 0) hx hb dL_law_5 (by decide) ?_
  refine lc_cell S hL hX hbl hS hP hl.1 (Nat.le_of_ble_eq_true rfl) dL_law_6 ⟨by omega, by omega⟩ (fun H locs hP hS => ?_)
  obtain ⟨v0, hv0⟩ : ∃ v : Int32, v = (if 0 < L then xs 0 else 0) := ⟨_, rfl⟩
  rw [← hv0]
  have hFc := va_free (wc := iw q0 2 x0Obj) hD hS hA [0] rfl
  refine va_callv (va_runI (As := [.int v0]) (rest := [.ref q0]) S (kX0_init l G q0 H.size v0) (cwI 1 hts gL_law_X0_init rfl rfl rfl (hts0 _ lw_t4.2.2.1) (hts0 _ lw_t4.2.2.2.2.1) (hts0 _ lw_t4.2.2.2.2.2.2.1) rfl nX0_init ⟨Nat.le_of_ble_eq_true rfl, Nat.le_of_ble_eq_true rfl⟩) ⟨iPre_blind, fun U hU hW => ⟨rfl, by rw [hU], by rw [hU]; exact hP, gK.moved hW.alike hK, hD.weaken (fun _ _ _ _ => trivial)⟩⟩ rfl rfl hl.1 rfl (lv_room (Nat.le_of_ble_eq_true rfl)) dL_law_9 ⟨Nat.le_of_ble_eq_true rfl, Nat.le_of_ble_eq_true rfl⟩) hS (fun q _ h => hFc q h) hFc (fun u t H1 locs ht hvm hw hB hz1 hk1 hS => ?_)
  subst hw
  obtain ⟨h, hP1, hK1, hD1⟩ := hB
  rw [ht] at hP1
  obtain ⟨hP, hD⟩ := va_join (wr := []) (wc := iw q0 2 x0Obj) (w1 := ow G q0 h (o_new v0)) hP hD [0] [] rfl rfl (by decide) (by decide) hk1 hFc hP1 hD1
  have hP : va_P G.1 vwCl (ow G q0 h (o_new v0)) H1 := hP
  have hD : va_D (fun q : Nat => s.heap.size ≤ q) (ow G q0 h (o_new v0)) := hD
  refine lv_astore_n (lv' := [(1, .ref q0), (0, .ref b)]) hx hb dL_law_12 rfl hl (by decide) rfl (fun ls hl => ?_)
  refine va_new (ci := 3) (fs := x1Obj) (C := RX1) (T := TX1) (N := 21) hx hb hts0 inX1 tyX1 tyX1_ok hown (hts0 _ lw_t4.2.1) (hts0 _ lw_t2.2.2.2) (hts0 _ lw_t4.2.2.2.1) hK hP hD hS hA rfl (fun j hj => by rcases (show j = 0 ∨ j = 1 ∨ j = 2 ∨ j = 3 ∨ j = 4 ∨ j = 5 ∨ j = 6 ∨ j = 7 ∨ j = 8 ∨ j = 9 ∨ j = 10 ∨ j = 11 ∨ j = 12 ∨ j = 13 ∨ j = 14 ∨ j = 15 ∨ j = 16 ∨ j = 17 ∨ j = 18 ∨ j = 19 ∨ j = 20 by omega) with rfl | rfl | rfl | rfl | rfl | rfl | rfl | rfl | rfl | rfl | rfl | rfl | rfl | rfl | rfl | rfl | rfl | rfl | rfl | rfl | rfl <;> rfl) (Nat.le_of_ble_eq_true rfl) (Nat.le_of_ble_eq_true rfl) dL_law_13 (fun m0 H hP hD hS => ?_)
  refine lv_dup hx hb dL_law_16 rfl ?_
  refine lv_aload_n hx hb dL_law_17 rfl (lv_at hl 1 rfl) ?_
  refine lv_iconst (v := 0) hx hb dL_law_18 (by decide) ?_
  refine lc_cell S hL hX hbl hS hP hl.1 (Nat.le_of_ble_eq_true rfl) dL_law_19 ⟨by omega, by omega⟩ (fun H locs hP hS => ?_)
  rw [← hv0]
  have hPm : va_P G.1 vwCl (iw m0 3 x1Obj) H := hP.sub [5] rfl
  have hDm : va_D (fun q : Nat => s.heap.size ≤ q) (iw m0 3 x1Obj) := hD.sub [5] (by decide) rfl
  have hFc := va_free (wc := iw m0 3 x1Obj) hD hS hA [5] rfl
  refine va_callv (va_runI (As := [.int v0]) (rest := [.ref m0]) S (kX1_init l G m0 H.size v0) (cwI 1 hts gL_law_X1_init rfl rfl rfl (hts0 _ lw_t4.2.2.2.1) (hts0 _ lw_t4.2.2.2.2.2.1) (hts0 _ lw_t4.2.2.2.2.2.2.2) rfl nX1_init ⟨Nat.le_of_ble_eq_true rfl, Nat.le_of_ble_eq_true rfl⟩) ⟨iPre_blind, fun U hU hW => ⟨rfl, by rw [hU], by rw [hU]; exact hPm, gK.moved hW.alike hK, hDm.weaken (fun _ _ _ _ => trivial)⟩⟩ rfl rfl hl.1 rfl (lv_room (Nat.le_of_ble_eq_true rfl)) dL_law_22 ⟨Nat.le_of_ble_eq_true rfl, Nat.le_of_ble_eq_true rfl⟩) hS (fun q _ h => hFc q h) hFc (fun u t H1 locs ht hvm hw hB hz1 hk1 hS => ?_)
  subst hw
  obtain ⟨mh, hP1, hK1, hD1⟩ := hB
  rw [ht] at hP1
  obtain ⟨hP, hD⟩ := va_join (wr := ow G q0 h (o_new v0)) (wc := iw m0 3 x1Obj) (w1 := mw G m0 mh (m_new v0)) hP hD [5] [0, 1, 2, 3, 4] rfl rfl (by decide) (by decide) hk1 hFc hP1 hD1
  refine lv_astore_n (lv' := [(2, .ref m0), (1, .ref q0), (0, .ref b)]) hx hb dL_law_25 rfl hl (by decide) rfl (fun ls hl => ?_)
  refine lv_iconst (v := 1) hx hb dL_law_26 (by decide) ?_
  refine va_newa (atype := .long) (ty := .long) (N' := 1) (a0 := (1, .inr (.inl (fun _ => 0)))) hx hb (hts0 _ lw_t3.2.1) rfl hK hP hD hS hA (fun _ => rfl) (by decide) (by decide) (by decide) (Nat.le_of_ble_eq_true rfl) (Nat.le_of_ble_eq_true rfl) dL_law_27 (fun ho cA H hK2 hP hD hS => ?_)
  have ec := gK_arr 1 rfl (by decide) hK hK2
  subst ec
  refine lv_astore_n (lv' := [(3, .ref ho), (2, .ref m0), (1, .ref q0), (0, .ref b)]) hx hb dL_law_29 rfl hl (by decide) rfl (fun ls hl => ?_)
  refine lv_iconst (v := 1) hx hb dL_law_30 (by decide) ?_
  refine lv_istore (lv' := [(4, .int 1), (3, .ref ho), (2, .ref m0), (1, .ref q0), (0, .ref b)]) hx hb dL_law_31 hl (by decide) rfl (fun ls hl => ?_)
  have X : LCx p l s m c b L xs (fun q : Nat => s.heap.size ≤ q) G := ⟨S, hK, hA, hbA, hZ, hNc, hX, hbl, hL, htr⟩
  exact law_loop hF X hr hlocks 512 0 rfl h (o_new v0) (m_new v0) (fun _ => 0) 1 _ _ H locs ls ⟨hP.sub [0, 1, 2, 3, 4, 5, 6, 7, 8, 9, 10, 11, 12, 13, 14, 15, 16, 17, 18, 19, 20, 21, 22, 23] rfl, hD.sub [0, 1, 2, 3, 4, 5, 6, 7, 8, 9, 10, 11, 12, 13, 14, 15, 16, 17, 18, 19, 20, 21, 22, 23] (by decide) rfl, hS⟩ (Sm_new v0) (by omega) (by omega) (by omega) (lv_sub hl [4, 3, 2, 1, 0] rfl)
