/-! the law's loop -/
section LS
variable {p : Program} {l : Launch} {e : Env} {s : State} {m : MethodId} {below : List Frame} {meth : Method} {c : Code} {b L : Nat} {xs : Nat → Int32} {G : gT} {h0 m0 ho : Nat} {mh : Nat → Nat} {F i j : Nat}
set_option maxHeartbeats 4000000 in
set_option maxRecDepth 100000 in
theorem law_step (hF : 1048600 < F) (X : LCx p l s m c b L xs (fun q => s.heap.size ≤ q) G) (hr : meth.sig.returnType = ret) (hlocks : meth.locks = false) (hi : i = 1 + 5 * j) (hj : j ≤ 512)
    (hn : i + 5 ≤ L → KN p l e s m below meth c b (fun q => s.heap.size ≤ q) G h0 m0 ho mh (lw_Z below #[Value.ref b] s) 33 (i + 5) (j + 1)) : KN p l e s m below meth c b (fun q => s.heap.size ≤ q) G h0 m0 ho mh (lw_Z below #[Value.ref b] s) 33 i j := by
  intro h σ μ fo M Cc Nn H locs ls hI hSm hM hC hN hl
  obtain ⟨S, hK, hA, hbA, hZ, hNc, hX, hbl, hL, htr⟩ := id X
  have hx := S.1
  have hb := S.2.1
  have hpo := pot_le hSm
  refine lv_iload hx hb dL_law_33 (lv_at hl 4 rfl) ?_
  refine lv_aload_n hx hb dL_law_35 rfl (lv_at hl 0 rfl) ?_
  refine va_slen hx hb hX hbl hbA hI.2.2 dL_law_36 ?_
  refine lv_iconst (v := 5) hx hb dL_law_37 (by decide) ?_
  refine lv_isub hx hb dL_law_38 ?_
  refine lv_icmp_gt (tgt := 1512) hx hb dL_law_39 (by decide) (fun _ => ?_) (fun c1 => ?_)
  · refine lv_iconst (v := 1) hx hb dL_law_1512 (by decide) ?_
    refine va_forget (fun q hq => hI.2.2.2.2 q hq) ?_
    refine W.widen (k := 601024) (n := 7293000) (by omega) (by omega) ?_
    exact lw_ret hx hb hr hlocks dL_law_1513
  · have hlt : i + 5 ≤ L := by
      have h1 := pk_sub_toInt (a := L) (b := 5) (by omega) (by omega)
      have h2 : ¬ (nI L - nI 5).toInt < (nI i).toInt := fun q => c1 (Int32.lt_iff_toInt_lt.mpr q)
      rw [h1, nI_toInt (by omega)] at h2
      omega
    have hj2 : j ≤ 511 := by omega
    have hnx := hn hlt
    have hK1 : KN p l e s m below meth c b (fun q => s.heap.size ≤ q) G h0 m0 ho mh (lw_Z below #[Value.ref b] s) 1506 i (j + 1) := by
      intro h σ μ fo M Cc Nn H locs ls hI hSm hM hC hN hl
      refine lv_iinc (v := nI (i + 5)) (lv' := [(4, .int (nI (i + 5))), (0, .ref b), (1, .ref h0), (2, .ref m0), (3, .ref ho)]) hx hb dL_law_1506 hl (k := 4) rfl (by show nI i + nI 5 = _; exact nI_add i 5) (by decide) rfl (fun ls hl => ?_)
      refine lv_goto (tgt := 33) hx hb dL_law_1509 (by decide) ?_
      exact hnx h σ μ fo M Cc Nn H locs ls hI hSm hM hC hN (lv_sub hl [1, 2, 3, 4, 0] rfl)
    refine lv_aload_n hx hb dL_law_42 rfl (lv_at hl 0 rfl) ?_
    refine lv_iload hx hb dL_law_43 (lv_at hl 4 rfl) ?_
    refine va_sld hx hb hX hbl hbA hI.2.2 (vp_in_nI (n := i) (by omega) (by omega)) dL_law_45 ?_
    refine lv_bipush (v := 31) hx hb dL_law_46 (by decide) ?_
    refine lv_iand hx hb dL_law_48 ?_
    obtain ⟨t, ht, et⟩ := pk_andE (xs (nI i).toNatClampNeg) (m := 31) 5 (by decide)
    rw [et]
    rcases (show t = 0 ∨ t = 1 ∨ t = 2 ∨ t = 3 ∨ t = 4 ∨ t = 5 ∨ t = 6 ∨ t = 7 ∨ t = 8 ∨ t = 9 ∨ t = 10 ∨ t = 11 ∨ t = 12 ∨ t = 13 ∨ t = 14 ∨ t = 15 ∨ t = 16 ∨ t = 17 ∨ t = 18 ∨ t = 19 ∨ t = 20 ∨ t = 21 ∨ 22 ≤ t by omega) with rfl | rfl | rfl | rfl | rfl | rfl | rfl | rfl | rfl | rfl | rfl | rfl | rfl | rfl | rfl | rfl | rfl | rfl | rfl | rfl | rfl | rfl | ht2
    · refine lv_tableIn (off := 103) (tgt := 152) hx hb dL_law_49 (by decide) (by decide) (by decide) (by decide) ?_
      exact lk_take hF X hlt hj2 hK1 h σ μ fo M Cc Nn H locs ls hI hSm hM hC hN hl
    · refine lv_tableIn (off := 175) (tgt := 224) hx hb dL_law_49 (by decide) (by decide) (by decide) (by decide) ?_
      exact lk_copy hF X hlt hj2 hK1 h σ μ fo M Cc Nn H locs ls hI hSm hM hC hN hl
    · refine lv_tableIn (off := 223) (tgt := 272) hx hb dL_law_49 (by decide) (by decide) (by decide) (by decide) ?_
      exact lk_drop hF X hlt hj2 hK1 h σ μ fo M Cc Nn H locs ls hI hSm hM hC hN hl
    · refine lv_tableIn (off := 259) (tgt := 308) hx hb dL_law_49 (by decide) (by decide) (by decide) (by decide) ?_
      exact lk_kind hF X hlt hj2 hK1 h σ μ fo M Cc Nn H locs ls hI hSm hM hC hN hl
    · refine lv_tableIn (off := 315) (tgt := 364) hx hb dL_law_49 (by decide) (by decide) (by decide) (by decide) ?_
      exact lk_same hF X hlt hj2 hK1 h σ μ fo M Cc Nn H locs ls hI hSm hM hC hN hl
    · refine lv_tableIn (off := 390) (tgt := 439) hx hb dL_law_49 (by decide) (by decide) (by decide) (by decide) ?_
      exact lk_tie hF X hlt hj2 hK1 h σ μ fo M Cc Nn H locs ls hI hSm hM hC hN hl
    · refine lv_tableIn (off := 450) (tgt := 499) hx hb dL_law_49 (by decide) (by decide) (by decide) (by decide) ?_
      exact lk_lead hF X hlt hj2 hK1 h σ μ fo M Cc Nn H locs ls hI hSm hM hC hN hl
    · refine lv_tableIn (off := 510) (tgt := 559) hx hb dL_law_49 (by decide) (by decide) (by decide) (by decide) ?_
      exact lk_number hF X hlt hj2 hK1 h σ μ fo M Cc Nn H locs ls hI hSm hM hC hN hl
    · refine lv_tableIn (off := 602) (tgt := 651) hx hb dL_law_49 (by decide) (by decide) (by decide) (by decide) ?_
      exact lk_refer hF X hlt hj2 hK1 h σ μ fo M Cc Nn H locs ls hI hSm hM hC hN hl
    · refine lv_tableIn (off := 662) (tgt := 711) hx hb dL_law_49 (by decide) (by decide) (by decide) (by decide) ?_
      exact lk_bits hF X hlt hj2 hK1 h σ μ fo M Cc Nn H locs ls hI hSm hM hC hN hl
    · refine lv_tableIn (off := 729) (tgt := 778) hx hb dL_law_49 (by decide) (by decide) (by decide) (by decide) ?_
      exact lk_follow hF X hlt hj2 hK1 h σ μ fo M Cc Nn H locs ls hI hSm hM hC hN hl
    · refine lv_tableIn (off := 816) (tgt := 865) hx hb dL_law_49 (by decide) (by decide) (by decide) (by decide) ?_
      exact lk_set hF X hlt hj2 hK1 h σ μ fo M Cc Nn H locs ls hI hSm hM hC hN hl
    · refine lv_tableIn (off := 876) (tgt := 925) hx hb dL_law_49 (by decide) (by decide) (by decide) (by decide) ?_
      exact lk_get hF X hlt hj2 hK1 h σ μ fo M Cc Nn H locs ls hI hSm hM hC hN hl
    · refine lv_tableIn (off := 944) (tgt := 993) hx hb dL_law_49 (by decide) (by decide) (by decide) (by decide) ?_
      exact lk_text hF X hlt hj2 hK1 h σ μ fo M Cc Nn H locs ls hI hSm hM hC hN hl
    · refine lv_tableIn (off := 1036) (tgt := 1085) hx hb dL_law_49 (by decide) (by decide) (by decide) (by decide) ?_
      exact lk_join hF X hlt hj2 hK1 h σ μ fo M Cc Nn H locs ls hI hSm hM hC hN hl
    · refine lv_tableIn (off := 1096) (tgt := 1145) hx hb dL_law_49 (by decide) (by decide) (by decide) (by decide) ?_
      exact lk_part hF X hlt hj2 hK1 h σ μ fo M Cc Nn H locs ls hI hSm hM hC hN hl
    · refine lv_tableIn (off := 1168) (tgt := 1217) hx hb dL_law_49 (by decide) (by decide) (by decide) (by decide) ?_
      exact lk_length hF X hlt hj2 hK1 h σ μ fo M Cc Nn H locs ls hI hSm hM hC hN hl
    · refine lv_tableIn (off := 1224) (tgt := 1273) hx hb dL_law_49 (by decide) (by decide) (by decide) (by decide) ?_
      exact lk_unit hF X hlt hj2 hK1 h σ μ fo M Cc Nn H locs ls hI hSm hM hC hN hl
    · refine lv_tableIn (off := 1292) (tgt := 1341) hx hb dL_law_49 (by decide) (by decide) (by decide) (by decide) ?_
      exact lk_compare hF X hlt hj2 hK1 h σ μ fo M Cc Nn H locs ls hI hSm hM hC hN hl
    · refine lv_tableIn (off := 1360) (tgt := 1409) hx hb dL_law_49 (by decide) (by decide) (by decide) (by decide) ?_
      exact lk_name hF X hlt hj2 hK1 h σ μ fo M Cc Nn H locs ls hI hSm hM hC hN hl
    · refine lv_tableIn (off := 1408) (tgt := 1457) hx hb dL_law_49 (by decide) (by decide) (by decide) (by decide) ?_
      exact lk_collect hF X hlt hj2 hK1 h σ μ fo M Cc Nn H locs ls hI hSm hM hC hN hl
    · refine lv_tableIn (off := 1421) (tgt := 1470) hx hb dL_law_49 (by decide) (by decide) (by decide) (by decide) ?_
      exact lk_stress hF X hlt hj2 hK1 h σ μ fo M Cc Nn H locs ls hI hSm hM hC hN hl
    · refine lv_tableOut (tgt := 1506) hx hb dL_law_49 (Or.inr ?_) (by decide) ?_
      · rw [nI_toInt (by omega)]
        omega
      · exact hK1 h σ μ fo M Cc Nn H locs ls hI hSm (by omega) (by omega) (by omega) hl
theorem law_loop (hF : 1048600 < F) (X : LCx p l s m c b L xs (fun q => s.heap.size ≤ q) G) (hr : meth.sig.returnType = ret) (hlocks : meth.locks = false) : ∀ (n j : Nat), j + n = 512 → KN p l e s m below meth c b (fun q => s.heap.size ≤ q) G h0 m0 ho mh (lw_Z below #[Value.ref b] s) 33 (1 + 5 * j) j := by
  have hL := X.2.2.2.2.2.2.2.2.1
  intro n
  induction n with
  | zero =>
    intro j hj
    exact law_step hF X hr hlocks rfl (by omega) (fun h => absurd h (by omega))
  | succ n ih =>
    intro j hj
    refine law_step hF X hr hlocks rfl (by omega) (fun _ => ?_)
    have := ih (j + 1) (by omega)
    rw [show 1 + 5 * (j + 1) = 1 + 5 * j + 5 by omega] at this
    exact this
end LS
/-! what the two are when they are new -/
theorem o_m_L (x : Int32) : o_L x = m_L x := by
  have e1 : (1048576 : Int32).toInt = 1048576 := by decide
  have e2 : (16 : Int32).toInt = 16 := by decide
  unfold o_L o_t m_L
  by_cases h1 : 16 ≤ x
  · rw [cIf_t h1]
    by_cases h2 : x ≤ 1048576
    · rw [cIf_t h2, if_neg (Int32.not_lt.mpr h2)]
      by_cases h3 : 16 < x
      · rw [if_pos h3]
      · rw [if_neg h3]
        apply Int32.toInt_inj.mp
        rw [Int32.le_iff_toInt_le] at h1
        rw [Int32.lt_iff_toInt_lt] at h3
        omega
    · rw [cIf_f h2, if_pos (Int32.not_le.mp h2), if_pos (by decide)]
  · rw [cIf_f h1]
    have h3 : ¬ 1048576 < x := fun q => h1 (by
      rw [Int32.lt_iff_toInt_lt] at q
      rw [Int32.le_iff_toInt_le]
      omega)
    rw [if_neg h3, if_neg (fun q => h1 (by
      rw [Int32.lt_iff_toInt_lt] at q
      rw [Int32.le_iff_toInt_le]
      omega))]
theorem Sm_new (x : Int32) : Sm (o_new x) (m_new x) 1 := by
  obtain ⟨hL1, hL2⟩ := o_L_ok x
  obtain ⟨L, hL⟩ : ∃ L : Nat, (o_L x).toInt = (L : Int) := ⟨(o_L x).toInt.toNat, by omega⟩
  have eL : o_L x = nI L := by
    apply Int32.toInt_inj.mp
    rw [nI_toInt (by omega)]
    exact hL
  have hn : 16 ≤ (o_n x).toNatClampNeg ∧ (o_n x).toNatClampNeg ≤ L := by
    have e1 : (256 : Int32).toInt = 256 := by decide
    show 16 ≤ (o_n x).toInt.toNat ∧ (o_n x).toInt.toNat ≤ L
    unfold o_n
    by_cases h : 256 < o_L x
    · rw [if_pos h]
      rw [Int32.lt_iff_toInt_lt] at h
      omega
    · rw [if_neg h]
      omega
  have hr : ∀ q, q < 24 → o_fr (o_new x) q = -1 := fun q hq => by
    show fillF (fun _ => 0) 0 24 (-1) q = -1
    unfold fillF
    rw [if_pos (by omega)]
  refine ⟨[], 0, [], fun _ _ => False, ⟨⟨rfl, Nat.zero_le _, ?_, fun a ha => absurd ha List.not_mem_nil, fun r hr2 => Or.inl (hr r hr2)⟩, ⟨rfl, fun a ha => absurd ha List.not_mem_nil⟩, rfl, ⟨rfl, Nat.zero_le _, ?_, fun j a hj => absurd hj (by simp)⟩, fun a => ⟨fun h => absurd h List.not_mem_nil, fun h => absurd h.1 List.not_mem_nil⟩, List.nodup_nil, fun a ha => absurd ha List.not_mem_nil, fun a ha => absurd ha List.not_mem_nil, ⟨L, eL, by omega, by omega, hn.1, hn.2⟩, 0, rfl, by omega, ?_⟩, ⟨Nat.le_refl _, by omega, rfl, rfl, fun o h1 h2 => absurd h2 (by omega), fun i _ => ⟨rfl, rfl⟩, fun i _ => ⟨rfl, rfl, rfl⟩, fun i _ => rfl⟩, fun a o h => h.elim, fun a o p h => h.elim, fun a b o h => h.elim, fun q hq => Or.inl ⟨hr q hq, rfl⟩, fun a o h => h.elim, o_m_L x, 0, rfl, Nat.zero_le _⟩
  · show (o_n x).toNatClampNeg ≤ 1048576
    omega
  · show 16 ≤ 1048576
    omega
  · show 1 ≤ 16
    omega
