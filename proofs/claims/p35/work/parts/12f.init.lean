theorem lk_RX11_9 : LkIN RX11 9 RX11 yX9_init cX9_init 1 0 := ⟨km_RX11_9, ki_yX9_init, kn_RX9, kc_yX9_init, rfl, by decide +kernel, by decide +kernel, by decide +kernel⟩
theorem lk_RX11_18 : LkIN RX11 18 RX11 yX8_init cX8_init 1 0 := ⟨km_RX11_18, ki_yX8_init, kn_RX8, kc_yX8_init, rfl, by decide +kernel, by decide +kernel, by decide +kernel⟩
theorem lk_RX11_28 : LkI RX11 28 yX7_init cX7_init 1 0 := ⟨km_RX11_28, ki_yX7_init, kn_RX7, kc_yX7_init, rfl, by decide +kernel, by decide +kernel, by decide +kernel⟩
theorem lk_RX11_35 : LkIN RX11 35 RX11 yX1_init cX1_init 1 0 := ⟨km_RX11_35, ki_yX1_init, kn_RX1, kc_yX1_init, rfl, by decide +kernel, by decide +kernel, by decide +kernel⟩
theorem lk_RX11_45 : LkI RX11 45 yX3_init cX3_init 2 1 := ⟨km_RX11_45, ki_yX3_init, kn_RX3, kc_yX3_init, rfl, by decide +kernel, by decide +kernel, by decide +kernel⟩
theorem lk_RX11_54 : LkI RX11 54 yX2_init cX2_init 2 1 := ⟨km_RX11_54, ki_yX2_init, kn_RX2, kc_yX2_init, rfl, by decide +kernel, by decide +kernel, by decide +kernel⟩
theorem lk_RX11_61 : LkI RX11 61 yX10_init cX10_init 3 1 := ⟨km_RX11_61, ki_yX10_init, kn_RX10, kc_yX10_init, rfl, by decide +kernel, by decide +kernel, by decide +kernel⟩
theorem lk_RX11_68 : LkIN RX11 68 RX11 yX4_init cX4_init 1 0 := ⟨km_RX11_68, ki_yX4_init, kn_RX4, kc_yX4_init, rfl, by decide +kernel, by decide +kernel, by decide +kernel⟩
theorem lk_RX11_75 : LkI RX11 75 yX5_init cX5_init 2 1 := ⟨km_RX11_75, ki_yX5_init, kn_RX5, kc_yX5_init, rfl, by decide +kernel, by decide +kernel, by decide +kernel⟩
set_option maxHeartbeats 4000000 in
set_option maxRecDepth 20000 in
theorem c_X11_init {E : zE} {l : Launch} (hst : l.stackTraces = false) (a : Nat) : Con E l yX11_init cX11_init 1 none { frames := 5, cells := 371, slots := 56111, locals := 102 } (fun G s vs => vs = [.ref a] ∧ zOK G s ∧ gT G a = 32 ∧ (∀ k, s a k = 0)) (fun G s _ => pV (fun G2 s2 => zOK G2 s2 ∧ gT G2 a = 12 ∧ zYa a G s G2 s2 ∧ zNc a G G2)) := by
  refine Con.mk hst (by decide) (fun G s vs h => by rw [h.1]; exact Nat.le_of_ble_eq_true rfl) ?_
  rintro X G s0 vs ⟨rfl, hO, ha, hz⟩ rfl hx hq
  show JJ X E 1 G s0 0 0 [(0, .ref a)] 0 []
  have hB0 := zB_0 (t := 12) hO ha hz (by decide)
  refine j_aload_n hx 0 dX11_init_0 rfl ?_
  refine j_objI hx km_RX11_1 ⟨by decide, by decide⟩ dX11_init_1 ?_
  refine j_aload_n hx 0 dX11_init_4 rfl ?_
  skip
  refine j_newO hx (zB_K hB0) (t := 30) inX9 tyX9_ok kl_RX11_7 kt_RX9 kn_RX9 rfl hf_10 he_10 ⟨Nat.le_of_ble_eq_true rfl, Nat.le_of_ble_eq_true rfl⟩ dX11_init_5 (fun q1 hq1 => ?_)
  refine j_dup hx dX11_init_8 rfl ?_
  refine j_callIN hx (c_X9_init hst q1) lk_RX11_9 [] ⟨rfl, (zB_new hB0 hq1 ar_30_0).1, (zB_new hB0 hq1 ar_30_0).2.1, (zB_new hB0 hq1 ar_30_0).2.2⟩ rfl rfl ⟨Nat.le_of_ble_eq_true rfl, Nat.le_of_ble_eq_true rfl⟩ ⟨Nat.le_of_ble_eq_true rfl, Nat.le_of_ble_eq_true rfl⟩ (k2 := 2) (n2 := 606) rfl rfl (Nat.le_of_ble_eq_true rfl) dX11_init_9 (kV (fun G2 s2 hP2 => ?_))
  have hB2 := zB_obj hB0 hq1 hP2.1 hP2.2.1 hP2.2.2.1 hP2.2.2.2 (by decide)
  refine p32_0 hx (zB_K hB2) (zB_a hB2) kf_RX11_10 rfl rfl dX11_init_12 ?_
  refine j_ren (P := fun G9 s9 => zB G s0 a 12 [(0, 10, 0)] G9 s9) (zB_ref hB2 rw_12 (by decide) (by decide) hP2.2.1) (fun G3 s3 hB3 => ?_)
  refine j_aload_n hx 0 dX11_init_15 rfl ?_
  skip
  refine j_newO hx (zB_K hB3) (t := 29) inX8 tyX8_ok kl_RX11_16 kt_RX8 kn_RX8 rfl hf_9 he_9 ⟨Nat.le_of_ble_eq_true rfl, Nat.le_of_ble_eq_true rfl⟩ dX11_init_16 (fun q4 hq4 => ?_)
  refine j_dup hx dX11_init_19 rfl ?_
  refine j_callIN hx (c_X8_init hst q4) lk_RX11_18 [] ⟨rfl, (zB_new hB3 hq4 ar_29_0).1, (zB_new hB3 hq4 ar_29_0).2.1, (zB_new hB3 hq4 ar_29_0).2.2⟩ rfl rfl ⟨Nat.le_of_ble_eq_true rfl, Nat.le_of_ble_eq_true rfl⟩ ⟨Nat.le_of_ble_eq_true rfl, Nat.le_of_ble_eq_true rfl⟩ (k2 := 21) (n2 := 1085) rfl rfl (Nat.le_of_ble_eq_true rfl) dX11_init_20 (kV (fun G5 s5 hP5 => ?_))
  have hB5 := zB_obj hB3 hq4 hP5.1 hP5.2.1 hP5.2.2.1 hP5.2.2.2 (by decide)
  refine p32_1 hx (zB_K hB5) (zB_a hB5) kf_RX11_19 rfl rfl dX11_init_23 ?_
  refine j_ren (P := fun G9 s9 => zB G s0 a 12 [(1, 9, 0), (0, 10, 0)] G9 s9) (zB_ref hB5 rw_12 (by decide) (by decide) hP5.2.1) (fun G6 s6 hB6 => ?_)
  refine j_aload_n hx 0 dX11_init_26 rfl ?_
  skip
  refine j_newO hx (zB_K hB6) (t := 29) inX8 tyX8_ok kl_RX11_16 kt_RX8 kn_RX8 rfl hf_9 he_9 ⟨Nat.le_of_ble_eq_true rfl, Nat.le_of_ble_eq_true rfl⟩ dX11_init_27 (fun q7 hq7 => ?_)
  refine j_dup hx dX11_init_30 rfl ?_
  refine j_callIN hx (c_X8_init hst q7) lk_RX11_18 [] ⟨rfl, (zB_new hB6 hq7 ar_29_0).1, (zB_new hB6 hq7 ar_29_0).2.1, (zB_new hB6 hq7 ar_29_0).2.2⟩ rfl rfl ⟨Nat.le_of_ble_eq_true rfl, Nat.le_of_ble_eq_true rfl⟩ ⟨Nat.le_of_ble_eq_true rfl, Nat.le_of_ble_eq_true rfl⟩ (k2 := 40) (n2 := 1564) rfl rfl (Nat.le_of_ble_eq_true rfl) dX11_init_31 (kV (fun G8 s8 hP8 => ?_))
  have hB8 := zB_obj hB6 hq7 hP8.1 hP8.2.1 hP8.2.2.1 hP8.2.2.2 (by decide)
  refine p32_2 hx (zB_K hB8) (zB_a hB8) kf_RX11_23 rfl rfl dX11_init_34 ?_
  refine j_ren (P := fun G9 s9 => zB G s0 a 12 [(2, 9, 0), (1, 9, 0), (0, 10, 0)] G9 s9) (zB_ref hB8 rw_12 (by decide) (by decide) hP8.2.1) (fun G9 s9 hB9 => ?_)
  refine j_aload_n hx 0 dX11_init_37 rfl ?_
  skip
  refine j_newO hx (zB_K hB9) (t := 28) inX7 tyX7_ok kl_RX11_26 kt_RX7 kn_RX7 rfl hf_8 he_8 ⟨Nat.le_of_ble_eq_true rfl, Nat.le_of_ble_eq_true rfl⟩ dX11_init_38 (fun q10 hq10 => ?_)
  refine j_dup hx dX11_init_41 rfl ?_
  refine j_callI hx (c_X7_init hst q10) lk_RX11_28 [] ⟨rfl, (zB_new hB9 hq10 ar_28_0).1, (zB_new hB9 hq10 ar_28_0).2.1, (zB_new hB9 hq10 ar_28_0).2.2⟩ rfl rfl ⟨Nat.le_of_ble_eq_true rfl, Nat.le_of_ble_eq_true rfl⟩ ⟨Nat.le_of_ble_eq_true rfl, Nat.le_of_ble_eq_true rfl⟩ (k2 := 42) (n2 := 1716) rfl rfl (Nat.le_of_ble_eq_true rfl) dX11_init_42 (kV (fun G11 s11 hP11 => ?_))
  have hB11 := zB_obj hB9 hq10 hP11.1 hP11.2.1 hP11.2.2.1 hP11.2.2.2 (by decide)
  refine p32_3 hx (zB_K hB11) (zB_a hB11) kf_RX11_29 rfl rfl dX11_init_45 ?_
  refine j_ren (P := fun G9 s9 => zB G s0 a 12 [(3, 8, 0), (2, 9, 0), (1, 9, 0), (0, 10, 0)] G9 s9) (zB_ref hB11 rw_12 (by decide) (by decide) hP11.2.1) (fun G12 s12 hB12 => ?_)
  refine j_aload_n hx 0 dX11_init_48 rfl ?_
  skip
  refine j_newO hx (zB_K hB12) (t := 22) inX1 tyX1_ok kl_RX11_33 kt_RX1 kn_RX1 rfl hf_2 he_2 ⟨Nat.le_of_ble_eq_true rfl, Nat.le_of_ble_eq_true rfl⟩ dX11_init_49 (fun q13 hq13 => ?_)
  refine j_dup hx dX11_init_52 rfl ?_
  refine j_callIN hx (c_X1_init hst q13) lk_RX11_35 [] ⟨rfl, (zB_new hB12 hq13 ar_22_0).1, (zB_new hB12 hq13 ar_22_0).2.1, (zB_new hB12 hq13 ar_22_0).2.2⟩ rfl rfl ⟨Nat.le_of_ble_eq_true rfl, Nat.le_of_ble_eq_true rfl⟩ ⟨Nat.le_of_ble_eq_true rfl, Nat.le_of_ble_eq_true rfl⟩ (k2 := 45) (n2 := 1743) rfl rfl (Nat.le_of_ble_eq_true rfl) dX11_init_53 (kV (fun G14 s14 hP14 => ?_))
  have hB14 := zB_obj hB12 hq13 hP14.1 hP14.2.1 hP14.2.2.1 hP14.2.2.2 (by decide)
  refine p32_4 hx (zB_K hB14) (zB_a hB14) kf_RX11_36 rfl rfl dX11_init_56 ?_
  refine j_ren (P := fun G9 s9 => zB G s0 a 12 [(4, 2, 0), (3, 8, 0), (2, 9, 0), (1, 9, 0), (0, 10, 0)] G9 s9) (zB_ref hB14 rw_12 (by decide) (by decide) hP14.2.1) (fun G15 s15 hB15 => ?_)
  refine j_aload_n hx 0 dX11_init_59 rfl ?_
  skip
  refine j_newO hx (zB_K hB15) (t := 22) inX1 tyX1_ok kl_RX11_33 kt_RX1 kn_RX1 rfl hf_2 he_2 ⟨Nat.le_of_ble_eq_true rfl, Nat.le_of_ble_eq_true rfl⟩ dX11_init_60 (fun q16 hq16 => ?_)
  refine j_dup hx dX11_init_63 rfl ?_
  refine j_callIN hx (c_X1_init hst q16) lk_RX11_35 [] ⟨rfl, (zB_new hB15 hq16 ar_22_0).1, (zB_new hB15 hq16 ar_22_0).2.1, (zB_new hB15 hq16 ar_22_0).2.2⟩ rfl rfl ⟨Nat.le_of_ble_eq_true rfl, Nat.le_of_ble_eq_true rfl⟩ ⟨Nat.le_of_ble_eq_true rfl, Nat.le_of_ble_eq_true rfl⟩ (k2 := 48) (n2 := 1770) rfl rfl (Nat.le_of_ble_eq_true rfl) dX11_init_64 (kV (fun G17 s17 hP17 => ?_))
  have hB17 := zB_obj hB15 hq16 hP17.1 hP17.2.1 hP17.2.2.1 hP17.2.2.2 (by decide)
  refine p32_5 hx (zB_K hB17) (zB_a hB17) kf_RX11_40 rfl rfl dX11_init_67 ?_
  refine j_ren (P := fun G9 s9 => zB G s0 a 12 [(5, 2, 0), (4, 2, 0), (3, 8, 0), (2, 9, 0), (1, 9, 0), (0, 10, 0)] G9 s9) (zB_ref hB17 rw_12 (by decide) (by decide) hP17.2.1) (fun G18 s18 hB18 => ?_)
  refine j_aload_n hx 0 dX11_init_70 rfl ?_
  skip
  refine j_newO hx (zB_K hB18) (t := 24) inX3 tyX3_ok kl_RX11_43 kt_RX3 kn_RX3 rfl hf_4 he_4 ⟨Nat.le_of_ble_eq_true rfl, Nat.le_of_ble_eq_true rfl⟩ dX11_init_71 (fun q19 hq19 => ?_)
  refine j_dup hx dX11_init_74 rfl ?_
  refine j_aload_n hx 0 dX11_init_75 rfl ?_
  obtain ⟨t20, et20, gt20⟩ := zB_get hB18 (k := 1) (u := 9) (by decide) (by decide)
  refine j_getf hx (zGK_push (zB_K hB18) hq19 ar_24_0) (gT_put hq19 (zB_a hB18) (by decide)) (by decide) rfl rfl rfl rfl inX11 1 (by decide) kf_RX11_19 rfl dX11_init_76 (v := .ref t20) (by rw [zZ_ne (fun e => (zB_q hB18 hq19).1 e.symm), et20]; exact zvr rfl) ?_
  refine j_callI hx (c_X3_init hst q19 t20) lk_RX11_45 [.ref t20] ⟨rfl, (zB_new hB18 hq19 ar_24_0).1, (zB_new hB18 hq19 ar_24_0).2.1, (zB_new hB18 hq19 ar_24_0).2.2, (gT_put hq19 gt20 (by decide))⟩ rfl rfl ⟨Nat.le_of_ble_eq_true rfl, Nat.le_of_ble_eq_true rfl⟩ ⟨Nat.le_of_ble_eq_true rfl, Nat.le_of_ble_eq_true rfl⟩ (k2 := 69) (n2 := 2265) rfl rfl (Nat.le_of_ble_eq_true rfl) dX11_init_79 (kV (fun G21 s21 hP21 => ?_))
  have hB21 := zB_obj hB18 hq19 hP21.1 hP21.2.1 hP21.2.2.1 hP21.2.2.2 (by decide)
  refine p32_6 hx (zB_K hB21) (zB_a hB21) kf_RX11_48 rfl rfl dX11_init_82 ?_
  refine j_ren (P := fun G9 s9 => zB G s0 a 12 [(6, 4, 0), (5, 2, 0), (4, 2, 0), (3, 8, 0), (2, 9, 0), (1, 9, 0), (0, 10, 0)] G9 s9) (zB_ref hB21 rw_12 (by decide) (by decide) hP21.2.1) (fun G22 s22 hB22 => ?_)
  refine j_aload_n hx 0 dX11_init_85 rfl ?_
  skip
  refine j_newO hx (zB_K hB22) (t := 23) inX2 tyX2_ok kl_RX11_52 kt_RX2 kn_RX2 rfl hf_3 he_3 ⟨Nat.le_of_ble_eq_true rfl, Nat.le_of_ble_eq_true rfl⟩ dX11_init_86 (fun q23 hq23 => ?_)
  refine j_dup hx dX11_init_89 rfl ?_
  refine j_aload_n hx 0 dX11_init_90 rfl ?_
  obtain ⟨t24, et24, gt24⟩ := zB_get hB22 (k := 1) (u := 9) (by decide) (by decide)
  refine j_getf hx (zGK_push (zB_K hB22) hq23 ar_23_0) (gT_put hq23 (zB_a hB22) (by decide)) (by decide) rfl rfl rfl rfl inX11 1 (by decide) kf_RX11_19 rfl dX11_init_91 (v := .ref t24) (by rw [zZ_ne (fun e => (zB_q hB22 hq23).1 e.symm), et24]; exact zvr rfl) ?_
  refine j_callI hx (c_X2_init hst q23 t24) lk_RX11_54 [.ref t24] ⟨rfl, (zB_new hB22 hq23 ar_23_0).1, (zB_new hB22 hq23 ar_23_0).2.1, (zB_new hB22 hq23 ar_23_0).2.2, (gT_put hq23 gt24 (by decide))⟩ rfl rfl ⟨Nat.le_of_ble_eq_true rfl, Nat.le_of_ble_eq_true rfl⟩ ⟨Nat.le_of_ble_eq_true rfl, Nat.le_of_ble_eq_true rfl⟩ (k2 := 94) (n2 := 30872) rfl rfl (Nat.le_of_ble_eq_true rfl) dX11_init_94 (kV (fun G25 s25 hP25 => ?_))
  have hB25 := zB_obj hB22 hq23 hP25.1 hP25.2.1 hP25.2.2.1 hP25.2.2.2 (by decide)
  refine p32_7 hx (zB_K hB25) (zB_a hB25) kf_RX11_55 rfl rfl dX11_init_97 ?_
  refine j_ren (P := fun G9 s9 => zB G s0 a 12 [(7, 3, 0), (6, 4, 0), (5, 2, 0), (4, 2, 0), (3, 8, 0), (2, 9, 0), (1, 9, 0), (0, 10, 0)] G9 s9) (zB_ref hB25 rw_12 (by decide) (by decide) hP25.2.1) (fun G26 s26 hB26 => ?_)
  refine j_aload_n hx 0 dX11_init_100 rfl ?_
  skip
  refine j_newO hx (zB_K hB26) (t := 31) inX10 tyX10_ok kl_RX11_59 kt_RX10 kn_RX10 rfl hf_11 he_11 ⟨Nat.le_of_ble_eq_true rfl, Nat.le_of_ble_eq_true rfl⟩ dX11_init_101 (fun q27 hq27 => ?_)
  refine j_dup hx dX11_init_104 rfl ?_
  refine j_aload_n hx 0 dX11_init_105 rfl ?_
  obtain ⟨t28, et28, gt28⟩ := zB_get hB26 (k := 1) (u := 9) (by decide) (by decide)
  refine j_getf hx (zGK_push (zB_K hB26) hq27 ar_31_0) (gT_put hq27 (zB_a hB26) (by decide)) (by decide) rfl rfl rfl rfl inX11 1 (by decide) kf_RX11_19 rfl dX11_init_106 (v := .ref t28) (by rw [zZ_ne (fun e => (zB_q hB26 hq27).1 e.symm), et28]; exact zvr rfl) ?_
  refine j_callI hx (c_X10_init hst q27 t28) lk_RX11_61 [.ref t28] ⟨rfl, (zB_new hB26 hq27 ar_31_0).1, (zB_new hB26 hq27 ar_31_0).2.1, (zB_new hB26 hq27 ar_31_0).2.2, (gT_put hq27 gt28 (by decide))⟩ rfl rfl ⟨Nat.le_of_ble_eq_true rfl, Nat.le_of_ble_eq_true rfl⟩ ⟨Nat.le_of_ble_eq_true rfl, Nat.le_of_ble_eq_true rfl⟩ (k2 := 291) (n2 := 36653) rfl rfl (Nat.le_of_ble_eq_true rfl) dX11_init_109 (kV (fun G29 s29 hP29 => ?_))
  have hB29 := zB_obj hB26 hq27 hP29.1 hP29.2.1 hP29.2.2.1 hP29.2.2.2 (by decide)
  refine p32_8 hx (zB_K hB29) (zB_a hB29) kf_RX11_62 rfl rfl dX11_init_112 ?_
  refine j_ren (P := fun G9 s9 => zB G s0 a 12 [(8, 11, 0), (7, 3, 0), (6, 4, 0), (5, 2, 0), (4, 2, 0), (3, 8, 0), (2, 9, 0), (1, 9, 0), (0, 10, 0)] G9 s9) (zB_ref hB29 rw_12 (by decide) (by decide) hP29.2.1) (fun G30 s30 hB30 => ?_)
  refine j_aload_n hx 0 dX11_init_115 rfl ?_
  skip
  refine j_newO hx (zB_K hB30) (t := 25) inX4 tyX4_ok kl_RX11_66 kt_RX4 kn_RX4 rfl hf_5 he_5 ⟨Nat.le_of_ble_eq_true rfl, Nat.le_of_ble_eq_true rfl⟩ dX11_init_116 (fun q31 hq31 => ?_)
  refine j_dup hx dX11_init_119 rfl ?_
  refine j_callIN hx (c_X4_init hst q31) lk_RX11_68 [] ⟨rfl, (zB_new hB30 hq31 ar_25_0).1, (zB_new hB30 hq31 ar_25_0).2.1, (zB_new hB30 hq31 ar_25_0).2.2⟩ rfl rfl ⟨Nat.le_of_ble_eq_true rfl, Nat.le_of_ble_eq_true rfl⟩ ⟨Nat.le_of_ble_eq_true rfl, Nat.le_of_ble_eq_true rfl⟩ (k2 := 296) (n2 := 51830) rfl rfl (Nat.le_of_ble_eq_true rfl) dX11_init_120 (kV (fun G32 s32 hP32 => ?_))
  have hB32 := zB_obj hB30 hq31 hP32.1 hP32.2.1 hP32.2.2.1 hP32.2.2.2 (by decide)
  refine p32_9 hx (zB_K hB32) (zB_a hB32) kf_RX11_69 rfl rfl dX11_init_123 ?_
  refine j_ren (P := fun G9 s9 => zB G s0 a 12 [(9, 5, 0), (8, 11, 0), (7, 3, 0), (6, 4, 0), (5, 2, 0), (4, 2, 0), (3, 8, 0), (2, 9, 0), (1, 9, 0), (0, 10, 0)] G9 s9) (zB_ref hB32 rw_12 (by decide) (by decide) hP32.2.1) (fun G33 s33 hB33 => ?_)
  refine j_aload_n hx 0 dX11_init_126 rfl ?_
  skip
  refine j_newO hx (zB_K hB33) (t := 26) inX5 tyX5_ok kl_RX11_73 kt_RX5 kn_RX5 rfl hf_6 he_6 ⟨Nat.le_of_ble_eq_true rfl, Nat.le_of_ble_eq_true rfl⟩ dX11_init_127 (fun q34 hq34 => ?_)
  refine j_dup hx dX11_init_130 rfl ?_
  refine j_aload_n hx 0 dX11_init_131 rfl ?_
  obtain ⟨t35, et35, gt35⟩ := zB_get hB33 (k := 1) (u := 9) (by decide) (by decide)
  refine j_getf hx (zGK_push (zB_K hB33) hq34 ar_26_0) (gT_put hq34 (zB_a hB33) (by decide)) (by decide) rfl rfl rfl rfl inX11 1 (by decide) kf_RX11_19 rfl dX11_init_132 (v := .ref t35) (by rw [zZ_ne (fun e => (zB_q hB33 hq34).1 e.symm), et35]; exact zvr rfl) ?_
  refine j_callI hx (c_X5_init hst q34 t35) lk_RX11_75 [.ref t35] ⟨rfl, (zB_new hB33 hq34 ar_26_0).1, (zB_new hB33 hq34 ar_26_0).2.1, (zB_new hB33 hq34 ar_26_0).2.2, (gT_put hq34 gt35 (by decide))⟩ rfl rfl ⟨Nat.le_of_ble_eq_true rfl, Nat.le_of_ble_eq_true rfl⟩ ⟨Nat.le_of_ble_eq_true rfl, Nat.le_of_ble_eq_true rfl⟩ (k2 := 321) (n2 := 53257) rfl rfl (Nat.le_of_ble_eq_true rfl) dX11_init_135 (kV (fun G36 s36 hP36 => ?_))
  have hB36 := zB_obj hB33 hq34 hP36.1 hP36.2.1 hP36.2.2.1 hP36.2.2.2 (by decide)
  refine p32_10 hx (zB_K hB36) (zB_a hB36) kf_RX11_76 rfl rfl dX11_init_138 ?_
  refine j_ren (P := fun G9 s9 => zB G s0 a 12 [(10, 6, 0), (9, 5, 0), (8, 11, 0), (7, 3, 0), (6, 4, 0), (5, 2, 0), (4, 2, 0), (3, 8, 0), (2, 9, 0), (1, 9, 0), (0, 10, 0)] G9 s9) (zB_ref hB36 rw_12 (by decide) (by decide) hP36.2.1) (fun G37 s37 hB37 => ?_)
  refine j_aload_n hx 0 dX11_init_141 rfl ?_
  skip
  refine j_newO hx (zB_K hB37) (t := 26) inX5 tyX5_ok kl_RX11_73 kt_RX5 kn_RX5 rfl hf_6 he_6 ⟨Nat.le_of_ble_eq_true rfl, Nat.le_of_ble_eq_true rfl⟩ dX11_init_142 (fun q38 hq38 => ?_)
  refine j_dup hx dX11_init_145 rfl ?_
  refine j_aload_n hx 0 dX11_init_146 rfl ?_
  obtain ⟨t39, et39, gt39⟩ := zB_get hB37 (k := 1) (u := 9) (by decide) (by decide)
  refine j_getf hx (zGK_push (zB_K hB37) hq38 ar_26_0) (gT_put hq38 (zB_a hB37) (by decide)) (by decide) rfl rfl rfl rfl inX11 1 (by decide) kf_RX11_19 rfl dX11_init_147 (v := .ref t39) (by rw [zZ_ne (fun e => (zB_q hB37 hq38).1 e.symm), et39]; exact zvr rfl) ?_
  refine j_callI hx (c_X5_init hst q38 t39) lk_RX11_75 [.ref t39] ⟨rfl, (zB_new hB37 hq38 ar_26_0).1, (zB_new hB37 hq38 ar_26_0).2.1, (zB_new hB37 hq38 ar_26_0).2.2, (gT_put hq38 gt39 (by decide))⟩ rfl rfl ⟨Nat.le_of_ble_eq_true rfl, Nat.le_of_ble_eq_true rfl⟩ ⟨Nat.le_of_ble_eq_true rfl, Nat.le_of_ble_eq_true rfl⟩ (k2 := 346) (n2 := 54684) rfl rfl (Nat.le_of_ble_eq_true rfl) dX11_init_150 (kV (fun G40 s40 hP40 => ?_))
  have hB40 := zB_obj hB37 hq38 hP40.1 hP40.2.1 hP40.2.2.1 hP40.2.2.2 (by decide)
  refine p32_11 hx (zB_K hB40) (zB_a hB40) kf_RX11_80 rfl rfl dX11_init_153 ?_
  refine j_ren (P := fun G9 s9 => zB G s0 a 12 [(11, 6, 0), (10, 6, 0), (9, 5, 0), (8, 11, 0), (7, 3, 0), (6, 4, 0), (5, 2, 0), (4, 2, 0), (3, 8, 0), (2, 9, 0), (1, 9, 0), (0, 10, 0)] G9 s9) (zB_ref hB40 rw_12 (by decide) (by decide) hP40.2.1) (fun G41 s41 hB41 => ?_)
  refine j_aload_n hx 0 dX11_init_156 rfl ?_
  skip
  refine j_newO hx (zB_K hB41) (t := 26) inX5 tyX5_ok kl_RX11_73 kt_RX5 kn_RX5 rfl hf_6 he_6 ⟨Nat.le_of_ble_eq_true rfl, Nat.le_of_ble_eq_true rfl⟩ dX11_init_157 (fun q42 hq42 => ?_)
  refine j_dup hx dX11_init_160 rfl ?_
  refine j_aload_n hx 0 dX11_init_161 rfl ?_
  obtain ⟨t43, et43, gt43⟩ := zB_get hB41 (k := 1) (u := 9) (by decide) (by decide)
  refine j_getf hx (zGK_push (zB_K hB41) hq42 ar_26_0) (gT_put hq42 (zB_a hB41) (by decide)) (by decide) rfl rfl rfl rfl inX11 1 (by decide) kf_RX11_19 rfl dX11_init_162 (v := .ref t43) (by rw [zZ_ne (fun e => (zB_q hB41 hq42).1 e.symm), et43]; exact zvr rfl) ?_
  refine j_callI hx (c_X5_init hst q42 t43) lk_RX11_75 [.ref t43] ⟨rfl, (zB_new hB41 hq42 ar_26_0).1, (zB_new hB41 hq42 ar_26_0).2.1, (zB_new hB41 hq42 ar_26_0).2.2, (gT_put hq42 gt43 (by decide))⟩ rfl rfl ⟨Nat.le_of_ble_eq_true rfl, Nat.le_of_ble_eq_true rfl⟩ ⟨Nat.le_of_ble_eq_true rfl, Nat.le_of_ble_eq_true rfl⟩ (k2 := 371) (n2 := 56111) rfl rfl (Nat.le_of_ble_eq_true rfl) dX11_init_165 (kV (fun G44 s44 hP44 => ?_))
  have hB44 := zB_obj hB41 hq42 hP44.1 hP44.2.1 hP44.2.2.1 hP44.2.2.2 (by decide)
  refine p32_12 hx (zB_K hB44) (zB_a hB44) kf_RX11_83 rfl rfl dX11_init_168 ?_
  refine j_ren (P := fun G9 s9 => zB G s0 a 12 [(12, 6, 0), (11, 6, 0), (10, 6, 0), (9, 5, 0), (8, 11, 0), (7, 3, 0), (6, 4, 0), (5, 2, 0), (4, 2, 0), (3, 8, 0), (2, 9, 0), (1, 9, 0), (0, 10, 0)] G9 s9) (zB_ref hB44 rw_12 (by decide) (by decide) hP44.2.1) (fun G45 s45 hB45 => ?_)
  refine j_pub hB45 (by decide +kernel) cl_12 ?_
  exact j_vret hx hq rfl (by decide) (by decide) dX11_init_171 ⟨rfl, zPub_OK hB45 (by decide +kernel) cl_12, pT_eq, zPub_Y hB45, zPub_c hB45 (by decide)⟩

