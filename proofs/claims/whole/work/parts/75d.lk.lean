/-! the law's cases -/
section LK
variable {p : Program} {l : Launch} {e : Env} {s : State} {m : MethodId} {below : List Frame} {meth : Method} {c : Code} {Q : State → Prop} {b L : Nat} {xs : Nat → Int32} {A : Nat → Prop} {G : gT} {h0 m0 ho : Nat} {mh : Nat → Nat} {F i j : Nat}
set_option maxHeartbeats 4000000 in
set_option maxRecDepth 100000 in
theorem lk_get (hF : 1048600 < F) (X : LCx p l s m c b L xs A G) (hi : i + 5 ≤ L) (hj : j ≤ 511) (hK1 : KN p l e s m below meth c b A G h0 m0 ho mh Q 1506 i (j + 1)) : KN p l e s m below meth c b A G h0 m0 ho mh Q 925 i j := by
  intro h σ μ fo M Cc Nn H locs ls hI hSm hM hC hN hl
  obtain ⟨S, hK, hA, hbA, hZ, hNc, hX, hbl, hL, htr⟩ := X
  have hx := S.1
  have hb := S.2.1
  have hts := S.2.2.2.2
  have hown := S.2.2.2.1
  obtain ⟨r, σ1, C, N, a1, μ1, f1, f2, ft, hk1, hab, hAf⟩ := C_get (F := F) (xs (i + 1)) (xs (i + 2)) hSm
  obtain ⟨⟨M1, hSm1, hm1, hm2⟩, hli, hC1, hN1⟩ := hAf
  have hpo := pot_le hSm1
  refine lv_aload_n hx hb dL_law_925 rfl (lv_at hl 1 rfl) ?_
  refine l_arg hx hb hX hbl hbA hI.2.2 (k := 1) (lv_at hl 0 rfl) (lv_at hl 4 rfl) (by decide) (by omega) hL dL_law_926 dL_law_927 dL_law_929 dL_law_930 dL_law_931 ?_
  refine l_arg hx hb hX hbl hbA hI.2.2 (k := 2) (lv_at hl 0 rfl) (lv_at hl 4 rfl) (by decide) (by omega) hL dL_law_932 dL_law_933 dL_law_935 dL_law_936 dL_law_937 ?_
  refine lv_aload_n hx hb dL_law_938 rfl (lv_at hl 3 rfl) ?_
  refine lc_o S hK hA hZ hNc hI (As := [.int (xs (i + 1)), .int (xs (i + 2)), .ref ho]) (rest := []) (kL_get l htr G h0 h ho fo H.size F σ (xs (i + 1)) (xs (i + 2)) r σ1 C N hk1 f1) (vx_cwSW 4 hts gL_law_L_get rfl rfl rfl nL_get ⟨Nat.le_of_ble_eq_true rfl, Nat.le_of_ble_eq_true rfl⟩) rfl hl.1 rfl (Nat.le_of_ble_eq_true rfl) dL_law_939 ⟨by show _ ≤ 601024; omega, by show _ ≤ 7293000; omega⟩ (fun h H locs hI => ?_)
  refine lv_istore (lv' := [(5, .int (xC r)), (0, .ref b), (1, .ref h0), (2, .ref m0), (3, .ref ho), (4, .int (nI i))]) hx hb dL_law_942 hl (by decide) rfl (fun ls hl => ?_)
  refine lv_aload_n hx hb dL_law_944 rfl (lv_at hl 3 rfl) ?_
  refine l_arg hx hb hX hbl hbA hI.2.2 (k := 1) (lv_at hl 1 rfl) (lv_at hl 5 rfl) (by decide) (by omega) hL dL_law_945 dL_law_946 dL_law_948 dL_law_949 dL_law_950 ?_
  refine l_arg hx hb hX hbl hbA hI.2.2 (k := 2) (lv_at hl 1 rfl) (lv_at hl 5 rfl) (by decide) (by omega) hL dL_law_951 dL_law_952 dL_law_954 dL_law_955 dL_law_956 ?_
  refine lm_i S hK hA hI (As := [.int (xs (i + 1)), .int (xs (i + 2))]) (rest := []) (kX1_get l G m0 mh H.size F μ (xs (i + 1)) (xs (i + 2)) a1 μ1 f2) (cwV 2 hts gL_law_X1_get rfl rfl rfl nX1_get ⟨Nat.le_of_ble_eq_true rfl, Nat.le_of_ble_eq_true rfl⟩) rfl hl.1 rfl (Nat.le_of_ble_eq_true rfl) dL_law_957 ⟨by show _ ≤ 601024; omega, by show _ ≤ 7293000; omega⟩ (fun H locs hI => ?_)
  refine lv_istore (lv' := [(6, .int a1), (5, .int (xC r)), (0, .ref b), (1, .ref h0), (2, .ref m0), (3, .ref ho), (4, .int (nI i))]) hx hb dL_law_960 hl (by decide) rfl (fun ls hl => ?_)
  refine lv_aload_n hx hb dL_law_962 rfl (lv_at hl 4 rfl) ?_
  refine lm_i S hK hA hI (As := []) (rest := []) (kX1_thrown l G m0 mh H.size F μ1 (m_thrown μ1) μ1 rfl) (cwV 0 hts gL_law_X1_thrown rfl rfl rfl nX1_thrown ⟨Nat.le_of_ble_eq_true rfl, Nat.le_of_ble_eq_true rfl⟩) rfl hl.1 rfl (Nat.le_of_ble_eq_true rfl) dL_law_963 ⟨by show _ ≤ 601024; omega, by show _ ≤ 7293000; omega⟩ (fun H locs hI => ?_)
  refine lv_iload hx hb dL_law_966 (lv_at hl 1 rfl) ?_
  refine lv_icmp_eq (tgt := 973) hx hb dL_law_968 (by decide) (fun c1 => ?_) (fun c1 => absurd ft c1)
  refine lv_iload hx hb dL_law_973 (lv_at hl 1 rfl) ?_
  refine lv_if_ne (tgt := 990) hx hb dL_law_975 (by decide) (fun c2 => ?_) (fun c2 => ?_)
  · refine lv_goto (tgt := 1506) hx hb dL_law_990 (by decide) ?_
    exact hK1 h σ1 μ1 (oOut Int32.toInt64 r fo) M1 _ _ H locs ls hI hSm1 (by omega) (by omega) (by omega) (lv_sub hl [2, 3, 4, 5, 6] rfl)
  · refine lv_aload_n hx hb dL_law_978 rfl (lv_at hl 5 rfl) ?_
    refine lv_iconst (v := 0) hx hb dL_law_979 (by decide) ?_
    refine va_lald hx hb hK hI.1 23 1 rfl rfl (show vp_in (0 : Int32) 1 from vp_in_nI (n := 0) (by omega) (by omega)) dL_law_980 ?_
    refine lv_iload hx hb dL_law_981 (lv_at hl 0 rfl) ?_
    refine lv_i2l (v := a1.toInt64) hx hb dL_law_983 rfl ?_
    refine W.lcmp hx hb dL_law_984 ?_
    refine lv_if_eq (tgt := 990) hx hb dL_law_985 (by decide) (fun _ => ?_) (fun c9 => absurd (oOut_cmp c2 (fun a e => by rw [hab a e])) c9)
    refine lv_goto (tgt := 1506) hx hb dL_law_990 (by decide) ?_
    exact hK1 h σ1 μ1 (oOut Int32.toInt64 r fo) M1 _ _ H locs ls hI hSm1 (by omega) (by omega) (by omega) (lv_sub hl [2, 3, 4, 5, 6] rfl)
set_option maxHeartbeats 4000000 in
set_option maxRecDepth 100000 in
theorem lk_text (hF : 1048600 < F) (X : LCx p l s m c b L xs A G) (hi : i + 5 ≤ L) (hj : j ≤ 511) (hK1 : KN p l e s m below meth c b A G h0 m0 ho mh Q 1506 i (j + 1)) : KN p l e s m below meth c b A G h0 m0 ho mh Q 993 i j := by
  intro h σ μ fo M Cc Nn H locs ls hI hSm hM hC hN hl
  obtain ⟨S, hK, hA, hbA, hZ, hNc, hX, hbl, hL, htr⟩ := X
  have hx := S.1
  have hb := S.2.1
  have hts := S.2.2.2.2
  have hown := S.2.2.2.1
  obtain ⟨r, σ1, C, N, μ1, f1, f2, ft, hAf⟩ := C_text (F := F) hF (by omega) (xs (i + 1)) (((xs (i + 2)).toInt64 <<< ((32 : Int32).toInt64 &&& 63)) ||| ((xs (i + 3)).toInt64 &&& 4294967295)) (xs (i + 4)) hSm
  obtain ⟨⟨M1, hSm1, hm1, hm2⟩, hli, hC1, hN1⟩ := hAf
  have hpo := pot_le hSm1
  refine lv_aload_n hx hb dL_law_993 rfl (lv_at hl 1 rfl) ?_
  refine l_arg hx hb hX hbl hbA hI.2.2 (k := 1) (lv_at hl 0 rfl) (lv_at hl 4 rfl) (by decide) (by omega) hL dL_law_994 dL_law_995 dL_law_997 dL_law_998 dL_law_999 ?_
  refine l_arg hx hb hX hbl hbA hI.2.2 (k := 2) (lv_at hl 0 rfl) (lv_at hl 4 rfl) (by decide) (by omega) hL dL_law_1000 dL_law_1001 dL_law_1003 dL_law_1004 dL_law_1005 ?_
  refine lv_i2l (v := (xs (i + 2)).toInt64) hx hb dL_law_1006 rfl ?_
  refine lv_bipush (v := 32) hx hb dL_law_1007 (by decide) ?_
  refine lv_lshl (v := (xs (i + 2)).toInt64 <<< ((32 : Int32).toInt64 &&& 63)) hx hb dL_law_1009 rfl ?_
  refine l_arg hx hb hX hbl hbA hI.2.2 (k := 3) (lv_at hl 0 rfl) (lv_at hl 4 rfl) (by decide) (by omega) hL dL_law_1010 dL_law_1011 dL_law_1013 dL_law_1014 dL_law_1015 ?_
  refine lv_i2l (v := (xs (i + 3)).toInt64) hx hb dL_law_1016 rfl ?_
  refine lv_ldc2 (v := 4294967295) hx hb hown (hts (.constantLong RL 129 4294967295) in129) dL_law_1017 ?_
  refine lv_land hx hb dL_law_1020 ?_
  refine lv_lor hx hb dL_law_1021 ?_
  refine l_arg hx hb hX hbl hbA hI.2.2 (k := 4) (lv_at hl 0 rfl) (lv_at hl 4 rfl) (by decide) (by omega) hL dL_law_1022 dL_law_1023 dL_law_1025 dL_law_1026 dL_law_1027 ?_
  refine lc_s S hK hA hZ hNc hI (As := [.int (xs (i + 1)), .long (((xs (i + 2)).toInt64 <<< ((32 : Int32).toInt64 &&& 63)) ||| ((xs (i + 3)).toInt64 &&& 4294967295)), .int (xs (i + 4))]) (rest := []) (kL_text l htr G h0 h H.size F σ (xs (i + 1)) (((xs (i + 2)).toInt64 <<< ((32 : Int32).toInt64 &&& 63)) ||| ((xs (i + 3)).toInt64 &&& 4294967295)) (xs (i + 4)) r σ1 C N f1) (vx_cwSW 4 hts gL_law_L_text rfl rfl rfl nL_text ⟨Nat.le_of_ble_eq_true rfl, Nat.le_of_ble_eq_true rfl⟩) rfl hl.1 rfl (Nat.le_of_ble_eq_true rfl) dL_law_1028 ⟨by show _ ≤ 601024; omega, by show _ ≤ 7293000; omega⟩ (fun h H locs hI => ?_)
  refine lv_istore (lv' := [(5, .int (xC r)), (0, .ref b), (1, .ref h0), (2, .ref m0), (3, .ref ho), (4, .int (nI i))]) hx hb dL_law_1031 hl (by decide) rfl (fun ls hl => ?_)
  refine lv_aload_n hx hb dL_law_1033 rfl (lv_at hl 3 rfl) ?_
  refine l_arg hx hb hX hbl hbA hI.2.2 (k := 1) (lv_at hl 1 rfl) (lv_at hl 5 rfl) (by decide) (by omega) hL dL_law_1034 dL_law_1035 dL_law_1037 dL_law_1038 dL_law_1039 ?_
  refine l_arg hx hb hX hbl hbA hI.2.2 (k := 2) (lv_at hl 1 rfl) (lv_at hl 5 rfl) (by decide) (by omega) hL dL_law_1040 dL_law_1041 dL_law_1043 dL_law_1044 dL_law_1045 ?_
  refine lv_i2l (v := (xs (i + 2)).toInt64) hx hb dL_law_1046 rfl ?_
  refine lv_bipush (v := 32) hx hb dL_law_1047 (by decide) ?_
  refine lv_lshl (v := (xs (i + 2)).toInt64 <<< ((32 : Int32).toInt64 &&& 63)) hx hb dL_law_1049 rfl ?_
  refine l_arg hx hb hX hbl hbA hI.2.2 (k := 3) (lv_at hl 1 rfl) (lv_at hl 5 rfl) (by decide) (by omega) hL dL_law_1050 dL_law_1051 dL_law_1053 dL_law_1054 dL_law_1055 ?_
  refine lv_i2l (v := (xs (i + 3)).toInt64) hx hb dL_law_1056 rfl ?_
  refine lv_ldc2 (v := 4294967295) hx hb hown (hts (.constantLong RL 129 4294967295) in129) dL_law_1057 ?_
  refine lv_land hx hb dL_law_1060 ?_
  refine lv_lor hx hb dL_law_1061 ?_
  refine l_arg hx hb hX hbl hbA hI.2.2 (k := 4) (lv_at hl 1 rfl) (lv_at hl 5 rfl) (by decide) (by omega) hL dL_law_1062 dL_law_1063 dL_law_1065 dL_law_1066 dL_law_1067 ?_
  refine lm_v S hK hA hI (As := [.int (xs (i + 1)), .long (((xs (i + 2)).toInt64 <<< ((32 : Int32).toInt64 &&& 63)) ||| ((xs (i + 3)).toInt64 &&& 4294967295)), .int (xs (i + 4))]) (rest := []) (kX1_text l G m0 mh H.size F μ (xs (i + 1)) (((xs (i + 2)).toInt64 <<< ((32 : Int32).toInt64 &&& 63)) ||| ((xs (i + 3)).toInt64 &&& 4294967295)) (xs (i + 4)) μ1 f2) (cwV 3 hts gL_law_X1_text rfl rfl rfl nX1_text ⟨Nat.le_of_ble_eq_true rfl, Nat.le_of_ble_eq_true rfl⟩) rfl hl.1 rfl (Nat.le_of_ble_eq_true rfl) dL_law_1068 ⟨by show _ ≤ 601024; omega, by show _ ≤ 7293000; omega⟩ (fun H locs hI => ?_)
  refine lv_aload_n hx hb dL_law_1071 rfl (lv_at hl 3 rfl) ?_
  refine lm_i S hK hA hI (As := []) (rest := []) (kX1_thrown l G m0 mh H.size F μ1 (m_thrown μ1) μ1 rfl) (cwV 0 hts gL_law_X1_thrown rfl rfl rfl nX1_thrown ⟨Nat.le_of_ble_eq_true rfl, Nat.le_of_ble_eq_true rfl⟩) rfl hl.1 rfl (Nat.le_of_ble_eq_true rfl) dL_law_1072 ⟨by show _ ≤ 601024; omega, by show _ ≤ 7293000; omega⟩ (fun H locs hI => ?_)
  refine lv_iload hx hb dL_law_1075 (lv_at hl 0 rfl) ?_
  refine lv_icmp_eq (tgt := 1082) hx hb dL_law_1077 (by decide) (fun c1 => ?_) (fun c1 => absurd ft c1)
  refine lv_goto (tgt := 1506) hx hb dL_law_1082 (by decide) ?_
  exact hK1 h σ1 μ1 fo M1 _ _ H locs ls hI hSm1 (by omega) (by omega) (by omega) (lv_sub hl [1, 2, 3, 4, 5] rfl)
set_option maxHeartbeats 4000000 in
set_option maxRecDepth 100000 in
theorem lk_join (hF : 1048600 < F) (X : LCx p l s m c b L xs A G) (hi : i + 5 ≤ L) (hj : j ≤ 511) (hK1 : KN p l e s m below meth c b A G h0 m0 ho mh Q 1506 i (j + 1)) : KN p l e s m below meth c b A G h0 m0 ho mh Q 1085 i j := by
  intro h σ μ fo M Cc Nn H locs ls hI hSm hM hC hN hl
  obtain ⟨S, hK, hA, hbA, hZ, hNc, hX, hbl, hL, htr⟩ := X
  have hx := S.1
  have hb := S.2.1
  have hts := S.2.2.2.2
  have hown := S.2.2.2.1
  obtain ⟨r, σ1, C, N, μ1, f1, f2, ft, hAf⟩ := C_join (F := F) hF (by omega) (xs (i + 1)) (xs (i + 2)) (xs (i + 3)) hSm
  obtain ⟨⟨M1, hSm1, hm1, hm2⟩, hli, hC1, hN1⟩ := hAf
  have hpo := pot_le hSm1
  refine lv_aload_n hx hb dL_law_1085 rfl (lv_at hl 1 rfl) ?_
  refine l_arg hx hb hX hbl hbA hI.2.2 (k := 1) (lv_at hl 0 rfl) (lv_at hl 4 rfl) (by decide) (by omega) hL dL_law_1086 dL_law_1087 dL_law_1089 dL_law_1090 dL_law_1091 ?_
  refine l_arg hx hb hX hbl hbA hI.2.2 (k := 2) (lv_at hl 0 rfl) (lv_at hl 4 rfl) (by decide) (by omega) hL dL_law_1092 dL_law_1093 dL_law_1095 dL_law_1096 dL_law_1097 ?_
  refine l_arg hx hb hX hbl hbA hI.2.2 (k := 3) (lv_at hl 0 rfl) (lv_at hl 4 rfl) (by decide) (by omega) hL dL_law_1098 dL_law_1099 dL_law_1101 dL_law_1102 dL_law_1103 ?_
  refine lc_s S hK hA hZ hNc hI (As := [.int (xs (i + 1)), .int (xs (i + 2)), .int (xs (i + 3))]) (rest := []) (kL_join l htr G h0 h H.size F σ (xs (i + 1)) (xs (i + 2)) (xs (i + 3)) r σ1 C N f1) (vx_cwSW 4 hts gL_law_L_join rfl rfl rfl nL_join ⟨Nat.le_of_ble_eq_true rfl, Nat.le_of_ble_eq_true rfl⟩) rfl hl.1 rfl (Nat.le_of_ble_eq_true rfl) dL_law_1104 ⟨by show _ ≤ 601024; omega, by show _ ≤ 7293000; omega⟩ (fun h H locs hI => ?_)
  refine lv_istore (lv' := [(5, .int (xC r)), (0, .ref b), (1, .ref h0), (2, .ref m0), (3, .ref ho), (4, .int (nI i))]) hx hb dL_law_1107 hl (by decide) rfl (fun ls hl => ?_)
  refine lv_aload_n hx hb dL_law_1109 rfl (lv_at hl 3 rfl) ?_
  refine l_arg hx hb hX hbl hbA hI.2.2 (k := 1) (lv_at hl 1 rfl) (lv_at hl 5 rfl) (by decide) (by omega) hL dL_law_1110 dL_law_1111 dL_law_1113 dL_law_1114 dL_law_1115 ?_
  refine l_arg hx hb hX hbl hbA hI.2.2 (k := 2) (lv_at hl 1 rfl) (lv_at hl 5 rfl) (by decide) (by omega) hL dL_law_1116 dL_law_1117 dL_law_1119 dL_law_1120 dL_law_1121 ?_
  refine l_arg hx hb hX hbl hbA hI.2.2 (k := 3) (lv_at hl 1 rfl) (lv_at hl 5 rfl) (by decide) (by omega) hL dL_law_1122 dL_law_1123 dL_law_1125 dL_law_1126 dL_law_1127 ?_
  refine lm_v S hK hA hI (As := [.int (xs (i + 1)), .int (xs (i + 2)), .int (xs (i + 3))]) (rest := []) (kX1_join l G m0 mh H.size F μ (xs (i + 1)) (xs (i + 2)) (xs (i + 3)) μ1 f2) (cwV 3 hts gL_law_X1_join rfl rfl rfl nX1_join ⟨Nat.le_of_ble_eq_true rfl, Nat.le_of_ble_eq_true rfl⟩) rfl hl.1 rfl (Nat.le_of_ble_eq_true rfl) dL_law_1128 ⟨by show _ ≤ 601024; omega, by show _ ≤ 7293000; omega⟩ (fun H locs hI => ?_)
  refine lv_aload_n hx hb dL_law_1131 rfl (lv_at hl 3 rfl) ?_
  refine lm_i S hK hA hI (As := []) (rest := []) (kX1_thrown l G m0 mh H.size F μ1 (m_thrown μ1) μ1 rfl) (cwV 0 hts gL_law_X1_thrown rfl rfl rfl nX1_thrown ⟨Nat.le_of_ble_eq_true rfl, Nat.le_of_ble_eq_true rfl⟩) rfl hl.1 rfl (Nat.le_of_ble_eq_true rfl) dL_law_1132 ⟨by show _ ≤ 601024; omega, by show _ ≤ 7293000; omega⟩ (fun H locs hI => ?_)
  refine lv_iload hx hb dL_law_1135 (lv_at hl 0 rfl) ?_
  refine lv_icmp_eq (tgt := 1142) hx hb dL_law_1137 (by decide) (fun c1 => ?_) (fun c1 => absurd ft c1)
  refine lv_goto (tgt := 1506) hx hb dL_law_1142 (by decide) ?_
  exact hK1 h σ1 μ1 fo M1 _ _ H locs ls hI hSm1 (by omega) (by omega) (by omega) (lv_sub hl [1, 2, 3, 4, 5] rfl)
set_option maxHeartbeats 4000000 in
set_option maxRecDepth 100000 in
theorem lk_part (hF : 1048600 < F) (X : LCx p l s m c b L xs A G) (hi : i + 5 ≤ L) (hj : j ≤ 511) (hK1 : KN p l e s m below meth c b A G h0 m0 ho mh Q 1506 i (j + 1)) : KN p l e s m below meth c b A G h0 m0 ho mh Q 1145 i j := by
  intro h σ μ fo M Cc Nn H locs ls hI hSm hM hC hN hl
  obtain ⟨S, hK, hA, hbA, hZ, hNc, hX, hbl, hL, htr⟩ := X
  have hx := S.1
  have hb := S.2.1
  have hts := S.2.2.2.2
  have hown := S.2.2.2.1
  obtain ⟨r, σ1, C, N, μ1, f1, f2, ft, hAf⟩ := C_part (F := F) hF (by omega) (xs (i + 1)) (xs (i + 2)) (xs (i + 3)) (xs (i + 4)) hSm
  obtain ⟨⟨M1, hSm1, hm1, hm2⟩, hli, hC1, hN1⟩ := hAf
  have hpo := pot_le hSm1
  refine lv_aload_n hx hb dL_law_1145 rfl (lv_at hl 1 rfl) ?_
  refine l_arg hx hb hX hbl hbA hI.2.2 (k := 1) (lv_at hl 0 rfl) (lv_at hl 4 rfl) (by decide) (by omega) hL dL_law_1146 dL_law_1147 dL_law_1149 dL_law_1150 dL_law_1151 ?_
  refine l_arg hx hb hX hbl hbA hI.2.2 (k := 2) (lv_at hl 0 rfl) (lv_at hl 4 rfl) (by decide) (by omega) hL dL_law_1152 dL_law_1153 dL_law_1155 dL_law_1156 dL_law_1157 ?_
  refine l_arg hx hb hX hbl hbA hI.2.2 (k := 3) (lv_at hl 0 rfl) (lv_at hl 4 rfl) (by decide) (by omega) hL dL_law_1158 dL_law_1159 dL_law_1161 dL_law_1162 dL_law_1163 ?_
  refine l_arg hx hb hX hbl hbA hI.2.2 (k := 4) (lv_at hl 0 rfl) (lv_at hl 4 rfl) (by decide) (by omega) hL dL_law_1164 dL_law_1165 dL_law_1167 dL_law_1168 dL_law_1169 ?_
  refine lc_s S hK hA hZ hNc hI (As := [.int (xs (i + 1)), .int (xs (i + 2)), .int (xs (i + 3)), .int (xs (i + 4))]) (rest := []) (kL_part l htr G h0 h H.size F σ (xs (i + 1)) (xs (i + 2)) (xs (i + 3)) (xs (i + 4)) r σ1 C N f1) (vx_cwSW 5 hts gL_law_L_part rfl rfl rfl nL_part ⟨Nat.le_of_ble_eq_true rfl, Nat.le_of_ble_eq_true rfl⟩) rfl hl.1 rfl (Nat.le_of_ble_eq_true rfl) dL_law_1170 ⟨by show _ ≤ 601024; omega, by show _ ≤ 7293000; omega⟩ (fun h H locs hI => ?_)
  refine lv_istore (lv' := [(5, .int (xC r)), (0, .ref b), (1, .ref h0), (2, .ref m0), (3, .ref ho), (4, .int (nI i))]) hx hb dL_law_1173 hl (by decide) rfl (fun ls hl => ?_)
  refine lv_aload_n hx hb dL_law_1175 rfl (lv_at hl 3 rfl) ?_
  refine l_arg hx hb hX hbl hbA hI.2.2 (k := 1) (lv_at hl 1 rfl) (lv_at hl 5 rfl) (by decide) (by omega) hL dL_law_1176 dL_law_1177 dL_law_1179 dL_law_1180 dL_law_1181 ?_
  refine l_arg hx hb hX hbl hbA hI.2.2 (k := 2) (lv_at hl 1 rfl) (lv_at hl 5 rfl) (by decide) (by omega) hL dL_law_1182 dL_law_1183 dL_law_1185 dL_law_1186 dL_law_1187 ?_
  refine l_arg hx hb hX hbl hbA hI.2.2 (k := 3) (lv_at hl 1 rfl) (lv_at hl 5 rfl) (by decide) (by omega) hL dL_law_1188 dL_law_1189 dL_law_1191 dL_law_1192 dL_law_1193 ?_
  refine l_arg hx hb hX hbl hbA hI.2.2 (k := 4) (lv_at hl 1 rfl) (lv_at hl 5 rfl) (by decide) (by omega) hL dL_law_1194 dL_law_1195 dL_law_1197 dL_law_1198 dL_law_1199 ?_
  refine lm_v S hK hA hI (As := [.int (xs (i + 1)), .int (xs (i + 2)), .int (xs (i + 3)), .int (xs (i + 4))]) (rest := []) (kX1_part l G m0 mh H.size F μ (xs (i + 1)) (xs (i + 2)) (xs (i + 3)) (xs (i + 4)) μ1 f2) (cwV 4 hts gL_law_X1_part rfl rfl rfl nX1_part ⟨Nat.le_of_ble_eq_true rfl, Nat.le_of_ble_eq_true rfl⟩) rfl hl.1 rfl (Nat.le_of_ble_eq_true rfl) dL_law_1200 ⟨by show _ ≤ 601024; omega, by show _ ≤ 7293000; omega⟩ (fun H locs hI => ?_)
  refine lv_aload_n hx hb dL_law_1203 rfl (lv_at hl 3 rfl) ?_
  refine lm_i S hK hA hI (As := []) (rest := []) (kX1_thrown l G m0 mh H.size F μ1 (m_thrown μ1) μ1 rfl) (cwV 0 hts gL_law_X1_thrown rfl rfl rfl nX1_thrown ⟨Nat.le_of_ble_eq_true rfl, Nat.le_of_ble_eq_true rfl⟩) rfl hl.1 rfl (Nat.le_of_ble_eq_true rfl) dL_law_1204 ⟨by show _ ≤ 601024; omega, by show _ ≤ 7293000; omega⟩ (fun H locs hI => ?_)
  refine lv_iload hx hb dL_law_1207 (lv_at hl 0 rfl) ?_
  refine lv_icmp_eq (tgt := 1214) hx hb dL_law_1209 (by decide) (fun c1 => ?_) (fun c1 => absurd ft c1)
  refine lv_goto (tgt := 1506) hx hb dL_law_1214 (by decide) ?_
  exact hK1 h σ1 μ1 fo M1 _ _ H locs ls hI hSm1 (by omega) (by omega) (by omega) (lv_sub hl [1, 2, 3, 4, 5] rfl)
set_option maxHeartbeats 4000000 in
set_option maxRecDepth 100000 in
theorem lk_length (hF : 1048600 < F) (X : LCx p l s m c b L xs A G) (hi : i + 5 ≤ L) (hj : j ≤ 511) (hK1 : KN p l e s m below meth c b A G h0 m0 ho mh Q 1506 i (j + 1)) : KN p l e s m below meth c b A G h0 m0 ho mh Q 1217 i j := by
  intro h σ μ fo M Cc Nn H locs ls hI hSm hM hC hN hl
  obtain ⟨S, hK, hA, hbA, hZ, hNc, hX, hbl, hL, htr⟩ := X
  have hx := S.1
  have hb := S.2.1
  have hts := S.2.2.2.2
  have hown := S.2.2.2.1
  obtain ⟨r, σ1, C, N, a1, μ1, f1, f2, ft, hk1, hab, hAf⟩ := C_length (F := F) (xs (i + 1)) hSm
  obtain ⟨⟨M1, hSm1, hm1, hm2⟩, hli, hC1, hN1⟩ := hAf
  have hpo := pot_le hSm1
  refine lv_aload_n hx hb dL_law_1217 rfl (lv_at hl 1 rfl) ?_
  refine l_arg hx hb hX hbl hbA hI.2.2 (k := 1) (lv_at hl 0 rfl) (lv_at hl 4 rfl) (by decide) (by omega) hL dL_law_1218 dL_law_1219 dL_law_1221 dL_law_1222 dL_law_1223 ?_
  refine lv_aload_n hx hb dL_law_1224 rfl (lv_at hl 3 rfl) ?_
  refine lc_o S hK hA hZ hNc hI (As := [.int (xs (i + 1)), .ref ho]) (rest := []) (kL_length l htr G h0 h ho fo H.size F σ (xs (i + 1)) r σ1 C N hk1 f1) (vx_cwSW 3 hts gL_law_L_length rfl rfl rfl nL_length ⟨Nat.le_of_ble_eq_true rfl, Nat.le_of_ble_eq_true rfl⟩) rfl hl.1 rfl (Nat.le_of_ble_eq_true rfl) dL_law_1225 ⟨by show _ ≤ 601024; omega, by show _ ≤ 7293000; omega⟩ (fun h H locs hI => ?_)
  refine lv_istore (lv' := [(5, .int (xC r)), (0, .ref b), (1, .ref h0), (2, .ref m0), (3, .ref ho), (4, .int (nI i))]) hx hb dL_law_1228 hl (by decide) rfl (fun ls hl => ?_)
  refine lv_aload_n hx hb dL_law_1230 rfl (lv_at hl 3 rfl) ?_
  refine l_arg hx hb hX hbl hbA hI.2.2 (k := 1) (lv_at hl 1 rfl) (lv_at hl 5 rfl) (by decide) (by omega) hL dL_law_1231 dL_law_1232 dL_law_1234 dL_law_1235 dL_law_1236 ?_
  refine lm_i S hK hA hI (As := [.int (xs (i + 1))]) (rest := []) (kX1_length l G m0 mh H.size F μ (xs (i + 1)) a1 μ1 f2) (cwV 1 hts gL_law_X1_length rfl rfl rfl nX1_length ⟨Nat.le_of_ble_eq_true rfl, Nat.le_of_ble_eq_true rfl⟩) rfl hl.1 rfl (Nat.le_of_ble_eq_true rfl) dL_law_1237 ⟨by show _ ≤ 601024; omega, by show _ ≤ 7293000; omega⟩ (fun H locs hI => ?_)
  refine lv_istore (lv' := [(6, .int a1), (5, .int (xC r)), (0, .ref b), (1, .ref h0), (2, .ref m0), (3, .ref ho), (4, .int (nI i))]) hx hb dL_law_1240 hl (by decide) rfl (fun ls hl => ?_)
  refine lv_aload_n hx hb dL_law_1242 rfl (lv_at hl 4 rfl) ?_
  refine lm_i S hK hA hI (As := []) (rest := []) (kX1_thrown l G m0 mh H.size F μ1 (m_thrown μ1) μ1 rfl) (cwV 0 hts gL_law_X1_thrown rfl rfl rfl nX1_thrown ⟨Nat.le_of_ble_eq_true rfl, Nat.le_of_ble_eq_true rfl⟩) rfl hl.1 rfl (Nat.le_of_ble_eq_true rfl) dL_law_1243 ⟨by show _ ≤ 601024; omega, by show _ ≤ 7293000; omega⟩ (fun H locs hI => ?_)
  refine lv_iload hx hb dL_law_1246 (lv_at hl 1 rfl) ?_
  refine lv_icmp_eq (tgt := 1253) hx hb dL_law_1248 (by decide) (fun c1 => ?_) (fun c1 => absurd ft c1)
  refine lv_iload hx hb dL_law_1253 (lv_at hl 1 rfl) ?_
  refine lv_if_ne (tgt := 1270) hx hb dL_law_1255 (by decide) (fun c2 => ?_) (fun c2 => ?_)
  · refine lv_goto (tgt := 1506) hx hb dL_law_1270 (by decide) ?_
    exact hK1 h σ1 μ1 (oOut Int32.toInt64 r fo) M1 _ _ H locs ls hI hSm1 (by omega) (by omega) (by omega) (lv_sub hl [2, 3, 4, 5, 6] rfl)
  · refine lv_aload_n hx hb dL_law_1258 rfl (lv_at hl 5 rfl) ?_
    refine lv_iconst (v := 0) hx hb dL_law_1259 (by decide) ?_
    refine va_lald hx hb hK hI.1 23 1 rfl rfl (show vp_in (0 : Int32) 1 from vp_in_nI (n := 0) (by omega) (by omega)) dL_law_1260 ?_
    refine lv_iload hx hb dL_law_1261 (lv_at hl 0 rfl) ?_
    refine lv_i2l (v := a1.toInt64) hx hb dL_law_1263 rfl ?_
    refine W.lcmp hx hb dL_law_1264 ?_
    refine lv_if_eq (tgt := 1270) hx hb dL_law_1265 (by decide) (fun _ => ?_) (fun c9 => absurd (oOut_cmp c2 (fun a e => by rw [hab a e])) c9)
    refine lv_goto (tgt := 1506) hx hb dL_law_1270 (by decide) ?_
    exact hK1 h σ1 μ1 (oOut Int32.toInt64 r fo) M1 _ _ H locs ls hI hSm1 (by omega) (by omega) (by omega) (lv_sub hl [2, 3, 4, 5, 6] rfl)
end LK
