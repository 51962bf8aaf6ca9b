set_option maxHeartbeats 4000000 in
set_option maxRecDepth 20000 in
theorem c_X6_init {E : zE} {l : Launch} (hst : l.stackTraces = false) (a : Nat) : Con E l yX6_init cX6_init 1 none { frames := 1, cells := 1, slots := 60, locals := 20 } (fun G s vs => vs = [.ref a] ∧ zOK G s ∧ gT G a = 27 ∧ (∀ k, s a k = 0)) (fun G s _ => pV (fun G2 s2 => zOK G2 s2 ∧ gT G2 a = 7 ∧ zYa a G s G2 s2 ∧ zNc a G G2)) := by
  refine Con.mk hst (by decide) (fun G s vs h => by rw [h.1]; exact Nat.le_of_ble_eq_true rfl) ?_
  rintro X G s0 vs ⟨rfl, hO, ha, hz⟩ rfl hx hq
  show JJ X E 1 G s0 0 0 [(0, .ref a)] 0 []
  have hB0 := zB_0 (t := 7) hO ha hz (by decide)
  refine j_aload_n hx 0 dX6_init_0 rfl ?_
  refine j_objI hx km_RX6_3 ⟨by decide, by decide⟩ dX6_init_1 ?_
  refine j_aload_n hx 0 dX6_init_4 rfl ?_
  refine j_bipush hx dX6_init_5 rfl ?_
  refine j_newA hx (zB_K hB0) (atype := .int) (ty := .int) (kd := 2) (t := 41) (N := 60) rfl ka_int rfl (fun _ _ h => h) (a := (60, .inl (fun _ => zI 0))) (fun _ => rfl) (fun _ => rfl) rfl (by decide) (by decide) ⟨Nat.le_of_ble_eq_true rfl, Nat.le_of_ble_eq_true rfl⟩ dX6_init_7 (fun q1 hq1 => ?_)
  refine p27_0 hx (zGK_push (zB_K hB0) hq1 ar_41_60) (gT_put hq1 (zB_a hB0) (by decide)) kf_RX6_9 rfl rfl dX6_init_9 ?_
  refine j_ren (P := fun G9 s9 => zB G s0 a 7 [(0, 41, 0)] G9 s9) (zB_arr hB0 rw_7 (by decide) hq1 ar_41_60) (fun G2 s2 hB2 => ?_)
  refine j_pub hB2 (by decide +kernel) cl_7 ?_
  exact j_vret hx hq rfl (by decide) (by decide) dX6_init_12 ⟨rfl, zPub_OK hB2 (by decide +kernel) cl_7, pT_eq, zPub_Y hB2, zPub_c hB2 (by decide)⟩

theorem lk_RX0_11 : LkIN RX0 11 RX11 yX6_init cX6_init 1 0 := ⟨km_RX0_11, ki_yX6_init, kn_RX6, kc_yX6_init, rfl, by decide +kernel, by decide +kernel, by decide +kernel⟩
set_option maxHeartbeats 4000000 in
set_option maxRecDepth 20000 in
theorem c_X0_init {E : zE} {l : Launch} (hst : l.stackTraces = false) (a : Nat) : Con E l yX0_init cX0_init 1 none { frames := 2, cells := 14, slots := 434, locals := 40 } (fun G s vs => vs = [.ref a] ∧ zOK G s ∧ gT G a = 21 ∧ (∀ k, s a k = 0)) (fun G s _ => pV (fun G2 s2 => zOK G2 s2 ∧ gT G2 a = 1 ∧ zYa a G s G2 s2 ∧ zNc a G G2)) := by
  refine Con.mk hst (by decide) (fun G s vs h => by rw [h.1]; exact Nat.le_of_ble_eq_true rfl) ?_
  rintro X G s0 vs ⟨rfl, hO, ha, hz⟩ rfl hx hq
  show JJ X E 1 G s0 0 0 [(0, .ref a)] 0 []
  have hB0 := zB_0 (t := 1) hO ha hz (by decide)
  refine j_aload_n hx 0 dX0_init_0 rfl ?_
  refine j_objI hx km_RX0_3 ⟨by decide, by decide⟩ dX0_init_1 ?_
  refine j_aload_n hx 0 dX0_init_4 rfl ?_
  skip
  refine j_newO hx (zB_K hB0) (t := 27) inX6 tyX6_ok kl_RX0_9 kt_RX6 kn_RX6 rfl hf_7 he_7 ⟨Nat.le_of_ble_eq_true rfl, Nat.le_of_ble_eq_true rfl⟩ dX0_init_5 (fun q1 hq1 => ?_)
  refine j_dup hx dX0_init_8 rfl ?_
  refine j_callIN hx (c_X6_init hst q1) lk_RX0_11 [] ⟨rfl, (zB_new hB0 hq1 ar_27_0).1, (zB_new hB0 hq1 ar_27_0).2.1, (zB_new hB0 hq1 ar_27_0).2.2⟩ rfl rfl ⟨Nat.le_of_ble_eq_true rfl, Nat.le_of_ble_eq_true rfl⟩ ⟨Nat.le_of_ble_eq_true rfl, Nat.le_of_ble_eq_true rfl⟩ (k2 := 2) (n2 := 62) rfl rfl (Nat.le_of_ble_eq_true rfl) dX0_init_9 (kV (fun G2 s2 hP2 => ?_))
  have hB2 := zB_obj hB0 hq1 hP2.1 hP2.2.1 hP2.2.2.1 hP2.2.2.2 (by decide)
  refine p21_0 hx (zB_K hB2) (zB_a hB2) kf_RX0_12 rfl rfl dX0_init_12 ?_
  refine j_ren (P := fun G9 s9 => zB G s0 a 1 [(0, 7, 0)] G9 s9) (zB_ref hB2 rw_1 (by decide) (by decide) hP2.2.1) (fun G3 s3 hB3 => ?_)
  refine j_aload_n hx 0 dX0_init_15 rfl ?_
  skip
  refine j_newO hx (zB_K hB3) (t := 27) inX6 tyX6_ok kl_RX0_9 kt_RX6 kn_RX6 rfl hf_7 he_7 ⟨Nat.le_of_ble_eq_true rfl, Nat.le_of_ble_eq_true rfl⟩ dX0_init_16 (fun q4 hq4 => ?_)
  refine j_dup hx dX0_init_19 rfl ?_
  refine j_callIN hx (c_X6_init hst q4) lk_RX0_11 [] ⟨rfl, (zB_new hB3 hq4 ar_27_0).1, (zB_new hB3 hq4 ar_27_0).2.1, (zB_new hB3 hq4 ar_27_0).2.2⟩ rfl rfl ⟨Nat.le_of_ble_eq_true rfl, Nat.le_of_ble_eq_true rfl⟩ ⟨Nat.le_of_ble_eq_true rfl, Nat.le_of_ble_eq_true rfl⟩ (k2 := 4) (n2 := 124) rfl rfl (Nat.le_of_ble_eq_true rfl) dX0_init_20 (kV (fun G5 s5 hP5 => ?_))
  have hB5 := zB_obj hB3 hq4 hP5.1 hP5.2.1 hP5.2.2.1 hP5.2.2.2 (by decide)
  refine p21_1 hx (zB_K hB5) (zB_a hB5) kf_RX0_18 rfl rfl dX0_init_23 ?_
  refine j_ren (P := fun G9 s9 => zB G s0 a 1 [(1, 7, 0), (0, 7, 0)] G9 s9) (zB_ref hB5 rw_1 (by decide) (by decide) hP5.2.1) (fun G6 s6 hB6 => ?_)
  refine j_aload_n hx 0 dX0_init_26 rfl ?_
  skip
  refine j_newO hx (zB_K hB6) (t := 27) inX6 tyX6_ok kl_RX0_9 kt_RX6 kn_RX6 rfl hf_7 he_7 ⟨Nat.le_of_ble_eq_true rfl, Nat.le_of_ble_eq_true rfl⟩ dX0_init_27 (fun q7 hq7 => ?_)
  refine j_dup hx dX0_init_30 rfl ?_
  refine j_callIN hx (c_X6_init hst q7) lk_RX0_11 [] ⟨rfl, (zB_new hB6 hq7 ar_27_0).1, (zB_new hB6 hq7 ar_27_0).2.1, (zB_new hB6 hq7 ar_27_0).2.2⟩ rfl rfl ⟨Nat.le_of_ble_eq_true rfl, Nat.le_of_ble_eq_true rfl⟩ ⟨Nat.le_of_ble_eq_true rfl, Nat.le_of_ble_eq_true rfl⟩ (k2 := 6) (n2 := 186) rfl rfl (Nat.le_of_ble_eq_true rfl) dX0_init_31 (kV (fun G8 s8 hP8 => ?_))
  have hB8 := zB_obj hB6 hq7 hP8.1 hP8.2.1 hP8.2.2.1 hP8.2.2.2 (by decide)
  refine p21_2 hx (zB_K hB8) (zB_a hB8) kf_RX0_21 rfl rfl dX0_init_34 ?_
  refine j_ren (P := fun G9 s9 => zB G s0 a 1 [(2, 7, 0), (1, 7, 0), (0, 7, 0)] G9 s9) (zB_ref hB8 rw_1 (by decide) (by decide) hP8.2.1) (fun G9 s9 hB9 => ?_)
  refine j_aload_n hx 0 dX0_init_37 rfl ?_
  skip
  refine j_newO hx (zB_K hB9) (t := 27) inX6 tyX6_ok kl_RX0_9 kt_RX6 kn_RX6 rfl hf_7 he_7 ⟨Nat.le_of_ble_eq_true rfl, Nat.le_of_ble_eq_true rfl⟩ dX0_init_38 (fun q10 hq10 => ?_)
  refine j_dup hx dX0_init_41 rfl ?_
  refine j_callIN hx (c_X6_init hst q10) lk_RX0_11 [] ⟨rfl, (zB_new hB9 hq10 ar_27_0).1, (zB_new hB9 hq10 ar_27_0).2.1, (zB_new hB9 hq10 ar_27_0).2.2⟩ rfl rfl ⟨Nat.le_of_ble_eq_true rfl, Nat.le_of_ble_eq_true rfl⟩ ⟨Nat.le_of_ble_eq_true rfl, Nat.le_of_ble_eq_true rfl⟩ (k2 := 8) (n2 := 248) rfl rfl (Nat.le_of_ble_eq_true rfl) dX0_init_42 (kV (fun G11 s11 hP11 => ?_))
  have hB11 := zB_obj hB9 hq10 hP11.1 hP11.2.1 hP11.2.2.1 hP11.2.2.2 (by decide)
  refine p21_3 hx (zB_K hB11) (zB_a hB11) kf_RX0_24 rfl rfl dX0_init_45 ?_
  refine j_ren (P := fun G9 s9 => zB G s0 a 1 [(3, 7, 0), (2, 7, 0), (1, 7, 0), (0, 7, 0)] G9 s9) (zB_ref hB11 rw_1 (by decide) (by decide) hP11.2.1) (fun G12 s12 hB12 => ?_)
  refine j_aload_n hx 0 dX0_init_48 rfl ?_
  skip
  refine j_newO hx (zB_K hB12) (t := 27) inX6 tyX6_ok kl_RX0_9 kt_RX6 kn_RX6 rfl hf_7 he_7 ⟨Nat.le_of_ble_eq_true rfl, Nat.le_of_ble_eq_true rfl⟩ dX0_init_49 (fun q13 hq13 => ?_)
  refine j_dup hx dX0_init_52 rfl ?_
  refine j_callIN hx (c_X6_init hst q13) lk_RX0_11 [] ⟨rfl, (zB_new hB12 hq13 ar_27_0).1, (zB_new hB12 hq13 ar_27_0).2.1, (zB_new hB12 hq13 ar_27_0).2.2⟩ rfl rfl ⟨Nat.le_of_ble_eq_true rfl, Nat.le_of_ble_eq_true rfl⟩ ⟨Nat.le_of_ble_eq_true rfl, Nat.le_of_ble_eq_true rfl⟩ (k2 := 10) (n2 := 310) rfl rfl (Nat.le_of_ble_eq_true rfl) dX0_init_53 (kV (fun G14 s14 hP14 => ?_))
  have hB14 := zB_obj hB12 hq13 hP14.1 hP14.2.1 hP14.2.2.1 hP14.2.2.2 (by decide)
  refine p21_4 hx (zB_K hB14) (zB_a hB14) kf_RX0_27 rfl rfl dX0_init_56 ?_
  refine j_ren (P := fun G9 s9 => zB G s0 a 1 [(4, 7, 0), (3, 7, 0), (2, 7, 0), (1, 7, 0), (0, 7, 0)] G9 s9) (zB_ref hB14 rw_1 (by decide) (by decide) hP14.2.1) (fun G15 s15 hB15 => ?_)
  refine j_aload_n hx 0 dX0_init_59 rfl ?_
  skip
  refine j_newO hx (zB_K hB15) (t := 27) inX6 tyX6_ok kl_RX0_9 kt_RX6 kn_RX6 rfl hf_7 he_7 ⟨Nat.le_of_ble_eq_true rfl, Nat.le_of_ble_eq_true rfl⟩ dX0_init_60 (fun q16 hq16 => ?_)
  refine j_dup hx dX0_init_63 rfl ?_
  refine j_callIN hx (c_X6_init hst q16) lk_RX0_11 [] ⟨rfl, (zB_new hB15 hq16 ar_27_0).1, (zB_new hB15 hq16 ar_27_0).2.1, (zB_new hB15 hq16 ar_27_0).2.2⟩ rfl rfl ⟨Nat.le_of_ble_eq_true rfl, Nat.le_of_ble_eq_true rfl⟩ ⟨Nat.le_of_ble_eq_true rfl, Nat.le_of_ble_eq_true rfl⟩ (k2 := 12) (n2 := 372) rfl rfl (Nat.le_of_ble_eq_true rfl) dX0_init_64 (kV (fun G17 s17 hP17 => ?_))
  have hB17 := zB_obj hB15 hq16 hP17.1 hP17.2.1 hP17.2.2.1 hP17.2.2.2 (by decide)
  refine p21_5 hx (zB_K hB17) (zB_a hB17) kf_RX0_30 rfl rfl dX0_init_67 ?_
  refine j_ren (P := fun G9 s9 => zB G s0 a 1 [(5, 7, 0), (4, 7, 0), (3, 7, 0), (2, 7, 0), (1, 7, 0), (0, 7, 0)] G9 s9) (zB_ref hB17 rw_1 (by decide) (by decide) hP17.2.1) (fun G18 s18 hB18 => ?_)
  refine j_aload_n hx 0 dX0_init_70 rfl ?_
  skip
  refine j_newO hx (zB_K hB18) (t := 27) inX6 tyX6_ok kl_RX0_9 kt_RX6 kn_RX6 rfl hf_7 he_7 ⟨Nat.le_of_ble_eq_true rfl, Nat.le_of_ble_eq_true rfl⟩ dX0_init_71 (fun q19 hq19 => ?_)
  refine j_dup hx dX0_init_74 rfl ?_
  refine j_callIN hx (c_X6_init hst q19) lk_RX0_11 [] ⟨rfl, (zB_new hB18 hq19 ar_27_0).1, (zB_new hB18 hq19 ar_27_0).2.1, (zB_new hB18 hq19 ar_27_0).2.2⟩ rfl rfl ⟨Nat.le_of_ble_eq_true rfl, Nat.le_of_ble_eq_true rfl⟩ ⟨Nat.le_of_ble_eq_true rfl, Nat.le_of_ble_eq_true rfl⟩ (k2 := 14) (n2 := 434) rfl rfl (Nat.le_of_ble_eq_true rfl) dX0_init_75 (kV (fun G20 s20 hP20 => ?_))
  have hB20 := zB_obj hB18 hq19 hP20.1 hP20.2.1 hP20.2.2.1 hP20.2.2.2 (by decide)
  refine p21_6 hx (zB_K hB20) (zB_a hB20) kf_RX0_33 rfl rfl dX0_init_78 ?_
  refine j_ren (P := fun G9 s9 => zB G s0 a 1 [(6, 7, 0), (5, 7, 0), (4, 7, 0), (3, 7, 0), (2, 7, 0), (1, 7, 0), (0, 7, 0)] G9 s9) (zB_ref hB20 rw_1 (by decide) (by decide) hP20.2.1) (fun G21 s21 hB21 => ?_)
  refine j_pub hB21 (by decide +kernel) cl_1 ?_
  exact j_vret hx hq rfl (by decide) (by decide) dX0_init_81 ⟨rfl, zPub_OK hB21 (by decide +kernel) cl_1, pT_eq, zPub_Y hB21, zPub_c hB21 (by decide)⟩

set_option maxHeartbeats 4000000 in
set_option maxRecDepth 20000 in
theorem c_X7_init {E : zE} {l : Launch} (hst : l.stackTraces = false) (a : Nat) : Con E l yX7_init cX7_init 1 none { frames := 1, cells := 1, slots := 150, locals := 20 } (fun G s vs => vs = [.ref a] ∧ zOK G s ∧ gT G a = 28 ∧ (∀ k, s a k = 0)) (fun G s _ => pV (fun G2 s2 => zOK G2 s2 ∧ gT G2 a = 8 ∧ zYa a G s G2 s2 ∧ zNc a G G2)) := by
  refine Con.mk hst (by decide) (fun G s vs h => by rw [h.1]; exact Nat.le_of_ble_eq_true rfl) ?_
  rintro X G s0 vs ⟨rfl, hO, ha, hz⟩ rfl hx hq
  show JJ X E 1 G s0 0 0 [(0, .ref a)] 0 []
  have hB0 := zB_0 (t := 8) hO ha hz (by decide)
  refine j_aload_n hx 0 dX7_init_0 rfl ?_
  refine j_objI hx km_RX7_3 ⟨by decide, by decide⟩ dX7_init_1 ?_
  refine j_aload_n hx 0 dX7_init_4 rfl ?_
  refine j_sipush hx dX7_init_5 rfl ?_
  refine j_newA hx (zB_K hB0) (atype := .int) (ty := .int) (kd := 2) (t := 46) (N := 150) rfl ka_int rfl (fun _ _ h => h) (a := (150, .inl (fun _ => zI 0))) (fun _ => rfl) (fun _ => rfl) rfl (by decide) (by decide) ⟨Nat.le_of_ble_eq_true rfl, Nat.le_of_ble_eq_true rfl⟩ dX7_init_8 (fun q1 hq1 => ?_)
  refine p28_0 hx (zGK_push (zB_K hB0) hq1 ar_46_150) (gT_put hq1 (zB_a hB0) (by decide)) kf_RX7_11 rfl rfl dX7_init_10 ?_
  refine j_ren (P := fun G9 s9 => zB G s0 a 8 [(0, 46, 0)] G9 s9) (zB_arr hB0 rw_8 (by decide) hq1 ar_46_150) (fun G2 s2 hB2 => ?_)
  refine j_pub hB2 (by decide +kernel) cl_8 ?_
  exact j_vret hx hq rfl (by decide) (by decide) dX7_init_13 ⟨rfl, zPub_OK hB2 (by decide +kernel) cl_8, pT_eq, zPub_Y hB2, zPub_c hB2 (by decide)⟩

theorem lk_RX8_23 : LkIN RX8 23 RX11 yX0_init cX0_init 1 0 := ⟨km_RX8_23, ki_yX0_init, kn_RX0, kc_yX0_init, rfl, by decide +kernel, by decide +kernel, by decide +kernel⟩
set_option maxHeartbeats 4000000 in
set_option maxRecDepth 20000 in
theorem c_X8_init {E : zE} {l : Launch} (hst : l.stackTraces = false) (a : Nat) : Con E l yX8_init cX8_init 1 none { frames := 3, cells := 18, slots := 473, locals := 60 } (fun G s vs => vs = [.ref a] ∧ zOK G s ∧ gT G a = 29 ∧ (∀ k, s a k = 0)) (fun G s _ => pV (fun G2 s2 => zOK G2 s2 ∧ gT G2 a = 9 ∧ zYa a G s G2 s2 ∧ zNc a G G2)) := by
  refine Con.mk hst (by decide) (fun G s vs h => by rw [h.1]; exact Nat.le_of_ble_eq_true rfl) ?_
  rintro X G s0 vs ⟨rfl, hO, ha, hz⟩ rfl hx hq
  show JJ X E 1 G s0 0 0 [(0, .ref a)] 0 []
  have hB0 := zB_0 (t := 9) hO ha hz (by decide)
  refine j_aload_n hx 0 dX8_init_0 rfl ?_
  refine j_objI hx km_RX8_3 ⟨by decide, by decide⟩ dX8_init_1 ?_
  refine j_aload_n hx 0 dX8_init_4 rfl ?_
  refine j_bipush hx dX8_init_5 rfl ?_
  refine j_newA hx (zB_K hB0) (atype := .int) (ty := .int) (kd := 2) (t := 42) (N := 15) rfl ka_int rfl (fun _ _ h => h) (a := (15, .inl (fun _ => zI 0))) (fun _ => rfl) (fun _ => rfl) rfl (by decide) (by decide) ⟨Nat.le_of_ble_eq_true rfl, Nat.le_of_ble_eq_true rfl⟩ dX8_init_7 (fun q1 hq1 => ?_)
  refine p29_0 hx (zGK_push (zB_K hB0) hq1 ar_42_15) (gT_put hq1 (zB_a hB0) (by decide)) kf_RX8_11 rfl rfl dX8_init_9 ?_
  refine j_ren (P := fun G9 s9 => zB G s0 a 9 [(0, 42, 0)] G9 s9) (zB_arr hB0 rw_9 (by decide) hq1 ar_42_15) (fun G2 s2 hB2 => ?_)
  refine j_aload_n hx 0 dX8_init_12 rfl ?_
  refine j_bipush hx dX8_init_13 rfl ?_
  refine j_newA hx (zB_K hB2) (atype := .int) (ty := .int) (kd := 2) (t := 43) (N := 12) rfl ka_int rfl (fun _ _ h => h) (a := (12, .inl (fun _ => zI 0))) (fun _ => rfl) (fun _ => rfl) rfl (by decide) (by decide) ⟨Nat.le_of_ble_eq_true rfl, Nat.le_of_ble_eq_true rfl⟩ dX8_init_15 (fun q3 hq3 => ?_)
  refine p29_1 hx (zGK_push (zB_K hB2) hq3 ar_43_12) (gT_put hq3 (zB_a hB2) (by decide)) kf_RX8_15 rfl rfl dX8_init_17 ?_
  refine j_ren (P := fun G9 s9 => zB G s0 a 9 [(1, 43, 0), (0, 42, 0)] G9 s9) (zB_arr hB2 rw_9 (by decide) hq3 ar_43_12) (fun G4 s4 hB4 => ?_)
  refine j_aload_n hx 0 dX8_init_20 rfl ?_
  refine j_iconst hx dX8_init_21 ?_
  refine j_newA hx (zB_K hB4) (atype := .int) (ty := .int) (kd := 2) (t := 44) (N := 3) rfl ka_int rfl (fun _ _ h => h) (a := (3, .inl (fun _ => zI 0))) (fun _ => rfl) (fun _ => rfl) rfl (by decide) (by decide) ⟨Nat.le_of_ble_eq_true rfl, Nat.le_of_ble_eq_true rfl⟩ dX8_init_22 (fun q5 hq5 => ?_)
  refine p29_2 hx (zGK_push (zB_K hB4) hq5 ar_44_3) (gT_put hq5 (zB_a hB4) (by decide)) kf_RX8_18 rfl rfl dX8_init_24 ?_
  refine j_ren (P := fun G9 s9 => zB G s0 a 9 [(2, 44, 0), (1, 43, 0), (0, 42, 0)] G9 s9) (zB_arr hB4 rw_9 (by decide) hq5 ar_44_3) (fun G6 s6 hB6 => ?_)
  refine j_aload_n hx 0 dX8_init_27 rfl ?_
  skip
  refine j_newO hx (zB_K hB6) (t := 21) inX0 tyX0_ok kl_RX8_21 kt_RX0 kn_RX0 rfl hf_1 he_1 ⟨Nat.le_of_ble_eq_true rfl, Nat.le_of_ble_eq_true rfl⟩ dX8_init_28 (fun q7 hq7 => ?_)
  refine j_dup hx dX8_init_31 rfl ?_
  refine j_callIN hx (c_X0_init hst q7) lk_RX8_23 [] ⟨rfl, (zB_new hB6 hq7 ar_21_0).1, (zB_new hB6 hq7 ar_21_0).2.1, (zB_new hB6 hq7 ar_21_0).2.2⟩ rfl rfl ⟨Nat.le_of_ble_eq_true rfl, Nat.le_of_ble_eq_true rfl⟩ ⟨Nat.le_of_ble_eq_true rfl, Nat.le_of_ble_eq_true rfl⟩ (k2 := 18) (n2 := 473) rfl rfl (Nat.le_of_ble_eq_true rfl) dX8_init_32 (kV (fun G8 s8 hP8 => ?_))
  have hB8 := zB_obj hB6 hq7 hP8.1 hP8.2.1 hP8.2.2.1 hP8.2.2.2 (by decide)
  refine p29_3 hx (zB_K hB8) (zB_a hB8) kf_RX8_24 rfl rfl dX8_init_35 ?_
  refine j_ren (P := fun G9 s9 => zB G s0 a 9 [(3, 1, 0), (2, 44, 0), (1, 43, 0), (0, 42, 0)] G9 s9) (zB_ref hB8 rw_9 (by decide) (by decide) hP8.2.1) (fun G9 s9 hB9 => ?_)
  refine j_pub hB9 (by decide +kernel) cl_9 ?_
  exact j_vret hx hq rfl (by decide) (by decide) dX8_init_38 ⟨rfl, zPub_OK hB9 (by decide +kernel) cl_9, pT_eq, zPub_Y hB9, zPub_c hB9 (by decide)⟩

set_option maxHeartbeats 4000000 in
set_option maxRecDepth 20000 in
theorem c_X9_init {E : zE} {l : Launch} (hst : l.stackTraces = false) (a : Nat) : Con E l yX9_init cX9_init 1 none { frames := 1, cells := 1, slots := 600, locals := 20 } (fun G s vs => vs = [.ref a] ∧ zOK G s ∧ gT G a = 30 ∧ (∀ k, s a k = 0)) (fun G s _ => pV (fun G2 s2 => zOK G2 s2 ∧ gT G2 a = 10 ∧ zYa a G s G2 s2 ∧ zNc a G G2)) := by
  refine Con.mk hst (by decide) (fun G s vs h => by rw [h.1]; exact Nat.le_of_ble_eq_true rfl) ?_
  rintro X G s0 vs ⟨rfl, hO, ha, hz⟩ rfl hx hq
  show JJ X E 1 G s0 0 0 [(0, .ref a)] 0 []
  have hB0 := zB_0 (t := 10) hO ha hz (by decide)
  refine j_aload_n hx 0 dX9_init_0 rfl ?_
  refine j_objI hx km_RX9_3 ⟨by decide, by decide⟩ dX9_init_1 ?_
  refine j_aload_n hx 0 dX9_init_4 rfl ?_
  refine j_sipush hx dX9_init_5 rfl ?_
  refine j_newA hx (zB_K hB0) (atype := .byte) (ty := .byte) (kd := 4) (t := 45) (N := 600) rfl ka_byte rfl (fun _ _ h => h) (a := (600, .inl (fun _ => zI 0))) (fun _ => rfl) (fun _ => rfl) rfl (by decide) (by decide) ⟨Nat.le_of_ble_eq_true rfl, Nat.le_of_ble_eq_true rfl⟩ dX9_init_8 (fun q1 hq1 => ?_)
  refine p30_0 hx (zGK_push (zB_K hB0) hq1 ar_45_600) (gT_put hq1 (zB_a hB0) (by decide)) kf_RX9_11 rfl rfl dX9_init_10 ?_
  refine j_ren (P := fun G9 s9 => zB G s0 a 10 [(0, 45, 0)] G9 s9) (zB_arr hB0 rw_10 (by decide) hq1 ar_45_600) (fun G2 s2 hB2 => ?_)
  refine j_aload_n hx 0 dX9_init_13 rfl ?_
  refine j_iconst hx dX9_init_14 ?_
  refine p30_5 hx (zB_K hB2) (zB_a hB2) kf_RX9_15 dX9_init_15 ?_
  refine j_ren (P := fun G9 s9 => zB G s0 a 10 [(5, 0, (-1)), (0, 45, 0)] G9 s9) (zB_int hB2 rw_10 (by decide)) (fun G3 s3 hB3 => ?_)
  refine j_pub hB3 (by decide +kernel) cl_10 ?_
  exact j_vret hx hq rfl (by decide) (by decide) dX9_init_18 ⟨rfl, zPub_OK hB3 (by decide +kernel) cl_10, pT_eq, zPub_Y hB3, zPub_c hB3 (by decide)⟩

set_option maxHeartbeats 4000000 in
set_option maxRecDepth 20000 in
theorem c_X1_init {E : zE} {l : Launch} (hst : l.stackTraces = false) (a : Nat) : Con E l yX1_init cX1_init 1 none { frames := 1, cells := 2, slots := 24, locals := 20 } (fun G s vs => vs = [.ref a] ∧ zOK G s ∧ gT G a = 22 ∧ (∀ k, s a k = 0)) (fun G s _ => pV (fun G2 s2 => zOK G2 s2 ∧ gT G2 a = 2 ∧ zYa a G s G2 s2 ∧ zNc a G G2)) := by
  refine Con.mk hst (by decide) (fun G s vs h => by rw [h.1]; exact Nat.le_of_ble_eq_true rfl) ?_
  rintro X G s0 vs ⟨rfl, hO, ha, hz⟩ rfl hx hq
  show JJ X E 1 G s0 0 0 [(0, .ref a)] 0 []
  have hB0 := zB_0 (t := 2) hO ha hz (by decide)
  refine j_aload_n hx 0 dX1_init_0 rfl ?_
  refine j_objI hx km_RX1_3 ⟨by decide, by decide⟩ dX1_init_1 ?_
  refine j_aload_n hx 0 dX1_init_4 rfl ?_
  refine j_bipush hx dX1_init_5 rfl ?_
  refine j_newA hx (zB_K hB0) (atype := .int) (ty := .int) (kd := 2) (t := 47) (N := 12) rfl ka_int rfl (fun _ _ h => h) (a := (12, .inl (fun _ => zI 0))) (fun _ => rfl) (fun _ => rfl) rfl (by decide) (by decide) ⟨Nat.le_of_ble_eq_true rfl, Nat.le_of_ble_eq_true rfl⟩ dX1_init_7 (fun q1 hq1 => ?_)
  refine p22_0 hx (zGK_push (zB_K hB0) hq1 ar_47_12) (gT_put hq1 (zB_a hB0) (by decide)) kf_RX1_11 rfl rfl dX1_init_9 ?_
  refine j_ren (P := fun G9 s9 => zB G s0 a 2 [(0, 47, 0)] G9 s9) (zB_arr hB0 rw_2 (by decide) hq1 ar_47_12) (fun G2 s2 hB2 => ?_)
  refine j_aload_n hx 0 dX1_init_12 rfl ?_
  refine j_bipush hx dX1_init_13 rfl ?_
  refine j_newA hx (zB_K hB2) (atype := .int) (ty := .int) (kd := 2) (t := 48) (N := 12) rfl ka_int rfl (fun _ _ h => h) (a := (12, .inl (fun _ => zI 0))) (fun _ => rfl) (fun _ => rfl) rfl (by decide) (by decide) ⟨Nat.le_of_ble_eq_true rfl, Nat.le_of_ble_eq_true rfl⟩ dX1_init_15 (fun q3 hq3 => ?_)
  refine p22_1 hx (zGK_push (zB_K hB2) hq3 ar_48_12) (gT_put hq3 (zB_a hB2) (by decide)) kf_RX1_15 rfl rfl dX1_init_17 ?_
  refine j_ren (P := fun G9 s9 => zB G s0 a 2 [(1, 48, 0), (0, 47, 0)] G9 s9) (zB_arr hB2 rw_2 (by decide) hq3 ar_48_12) (fun G4 s4 hB4 => ?_)
  refine j_pub hB4 (by decide +kernel) cl_2 ?_
  exact j_vret hx hq rfl (by decide) (by decide) dX1_init_20 ⟨rfl, zPub_OK hB4 (by decide +kernel) cl_2, pT_eq, zPub_Y hB4, zPub_c hB4 (by decide)⟩

