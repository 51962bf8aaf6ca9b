theorem lk_RX3_13 : LkIN RX3 13 RX11 yX0_init cX0_init 1 0 := ⟨km_RX3_13, ki_yX0_init, kn_RX0, kc_yX0_init, rfl, by decide +kernel, by decide +kernel, by decide +kernel⟩
set_option maxHeartbeats 4000000 in
set_option maxRecDepth 20000 in
theorem c_X3_init {E : zE} {l : Launch} (hst : l.stackTraces = false) (a : Nat) (b1 : Nat) : Con E l yX3_init cX3_init 2 none { frames := 3, cells := 20, slots := 481, locals := 60 } (fun G s vs => vs = [.ref a, .ref b1] ∧ zOK G s ∧ gT G a = 24 ∧ (∀ k, s a k = 0) ∧ gT G b1 = 9) (fun G s _ => pV (fun G2 s2 => zOK G2 s2 ∧ gT G2 a = 4 ∧ zYa a G s G2 s2 ∧ zNc a G G2)) := by
  refine Con.mk hst (by decide) (fun G s vs h => by rw [h.1]; exact Nat.le_of_ble_eq_true rfl) ?_
  rintro X G s0 vs ⟨rfl, hO, ha, hz, hb1⟩ rfl hx hq
  show JJ X E 2 G s0 0 0 [(0, .ref a), (1, .ref b1)] 0 []
  have hB0 := zB_0 (t := 4) hO ha hz (by decide)
  refine j_aload_n hx 0 dX3_init_0 rfl ?_
  refine j_objI hx km_RX3_5 ⟨by decide, by decide⟩ dX3_init_1 ?_
  refine j_aload_n hx 0 dX3_init_4 rfl ?_
  skip
  refine j_newO hx (zB_K hB0) (t := 21) inX0 tyX0_ok kl_RX3_11 kt_RX0 kn_RX0 rfl hf_1 he_1 ⟨Nat.le_of_ble_eq_true rfl, Nat.le_of_ble_eq_true rfl⟩ dX3_init_5 (fun q1 hq1 => ?_)
  refine j_dup hx dX3_init_8 rfl ?_
  refine j_callIN hx (c_X0_init hst q1) lk_RX3_13 [] ⟨rfl, (zB_new hB0 hq1 ar_21_0).1, (zB_new hB0 hq1 ar_21_0).2.1, (zB_new hB0 hq1 ar_21_0).2.2⟩ rfl rfl ⟨Nat.le_of_ble_eq_true rfl, Nat.le_of_ble_eq_true rfl⟩ ⟨Nat.le_of_ble_eq_true rfl, Nat.le_of_ble_eq_true rfl⟩ (k2 := 15) (n2 := 443) rfl rfl (Nat.le_of_ble_eq_true rfl) dX3_init_9 (kV (fun G2 s2 hP2 => ?_))
  have hB2 := zB_obj hB0 hq1 hP2.1 hP2.2.1 hP2.2.2.1 hP2.2.2.2 (by decide)
  refine p24_1 hx (zB_K hB2) (zB_a hB2) kf_RX3_14 rfl rfl dX3_init_12 ?_
  refine j_ren (P := fun G9 s9 => zB G s0 a 4 [(1, 1, 0)] G9 s9) (zB_ref hB2 rw_4 (by decide) (by decide) hP2.2.1) (fun G3 s3 hB3 => ?_)
  refine j_aload_n hx 0 dX3_init_15 rfl ?_
  refine j_iconst hx dX3_init_16 ?_
  refine j_newA hx (zB_K hB3) (atype := .int) (ty := .int) (kd := 2) (t := 44) (N := 3) rfl ka_int rfl (fun _ _ h => h) (a := (3, .inl (fun _ => zI 0))) (fun _ => rfl) (fun _ => rfl) rfl (by decide) (by decide) ⟨Nat.le_of_ble_eq_true rfl, Nat.le_of_ble_eq_true rfl⟩ dX3_init_17 (fun q4 hq4 => ?_)
  refine p24_2 hx (zGK_push (zB_K hB3) hq4 ar_44_3) (gT_put hq4 (zB_a hB3) (by decide)) kf_RX3_18 rfl rfl dX3_init_19 ?_
  refine j_ren (P := fun G9 s9 => zB G s0 a 4 [(2, 44, 0), (1, 1, 0)] G9 s9) (zB_arr hB3 rw_4 (by decide) hq4 ar_44_3) (fun G5 s5 hB5 => ?_)
  refine j_aload_n hx 0 dX3_init_22 rfl ?_
  refine j_bipush hx dX3_init_23 rfl ?_
  refine j_newQ hx (zB_K hB5) (kd := 6) (t := 49) (N := 6) kl_RX3_22 hx.2.2.2.2.2.1.2.2.2.2.2.2.2.1 rfl (fun _ => rfl) rfl (by decide) ⟨Nat.le_of_ble_eq_true rfl, Nat.le_of_ble_eq_true rfl⟩ dX3_init_25 (fun q6 hq6 => ?_)
  refine p24_3 hx (zGK_push (zB_K hB5) hq6 ar_49_6) (gT_put hq6 (zB_a hB5) (by decide)) kf_RX3_24 rfl rfl dX3_init_28 ?_
  refine j_ren (P := fun G9 s9 => zB G s0 a 4 [(3, 49, 0), (2, 44, 0), (1, 1, 0)] G9 s9) (zB_arr hB5 rw_4 (by decide) hq6 ar_49_6) (fun G7 s7 hB7 => ?_)
  refine j_aload_n hx 0 dX3_init_31 rfl ?_
  refine j_bipush hx dX3_init_32 rfl ?_
  refine j_newA hx (zB_K hB7) (atype := .int) (ty := .int) (kd := 2) (t := 50) (N := 21) rfl ka_int rfl (fun _ _ h => h) (a := (21, .inl (fun _ => zI 0))) (fun _ => rfl) (fun _ => rfl) rfl (by decide) (by decide) ⟨Nat.le_of_ble_eq_true rfl, Nat.le_of_ble_eq_true rfl⟩ dX3_init_34 (fun q8 hq8 => ?_)
  refine p24_4 hx (zGK_push (zB_K hB7) hq8 ar_50_21) (gT_put hq8 (zB_a hB7) (by decide)) kf_RX3_28 rfl rfl dX3_init_36 ?_
  refine j_ren (P := fun G9 s9 => zB G s0 a 4 [(4, 50, 0), (3, 49, 0), (2, 44, 0), (1, 1, 0)] G9 s9) (zB_arr hB7 rw_4 (by decide) hq8 ar_50_21) (fun G9 s9 hB9 => ?_)
  refine j_aload_n hx 0 dX3_init_39 rfl ?_
  refine j_iconst hx dX3_init_40 ?_
  refine j_newA hx (zB_K hB9) (atype := .int) (ty := .int) (kd := 2) (t := 51) (N := 5) rfl ka_int rfl (fun _ _ h => h) (a := (5, .inl (fun _ => zI 0))) (fun _ => rfl) (fun _ => rfl) rfl (by decide) (by decide) ⟨Nat.le_of_ble_eq_true rfl, Nat.le_of_ble_eq_true rfl⟩ dX3_init_41 (fun q10 hq10 => ?_)
  refine p24_5 hx (zGK_push (zB_K hB9) hq10 ar_51_5) (gT_put hq10 (zB_a hB9) (by decide)) kf_RX3_31 rfl rfl dX3_init_43 ?_
  refine j_ren (P := fun G9 s9 => zB G s0 a 4 [(5, 51, 0), (4, 50, 0), (3, 49, 0), (2, 44, 0), (1, 1, 0)] G9 s9) (zB_arr hB9 rw_4 (by decide) hq10 ar_51_5) (fun G11 s11 hB11 => ?_)
  refine j_aload_n hx 0 dX3_init_46 rfl ?_
  refine j_iconst hx dX3_init_47 ?_
  refine j_newA hx (zB_K hB11) (atype := .int) (ty := .int) (kd := 2) (t := 52) (N := 3) rfl ka_int rfl (fun _ _ h => h) (a := (3, .inl (fun _ => zI 0))) (fun _ => rfl) (fun _ => rfl) rfl (by decide) (by decide) ⟨Nat.le_of_ble_eq_true rfl, Nat.le_of_ble_eq_true rfl⟩ dX3_init_48 (fun q12 hq12 => ?_)
  refine p24_6 hx (zGK_push (zB_K hB11) hq12 ar_52_3) (gT_put hq12 (zB_a hB11) (by decide)) kf_RX3_34 rfl rfl dX3_init_50 ?_
  refine j_ren (P := fun G9 s9 => zB G s0 a 4 [(6, 52, 0), (5, 51, 0), (4, 50, 0), (3, 49, 0), (2, 44, 0), (1, 1, 0)] G9 s9) (zB_arr hB11 rw_4 (by decide) hq12 ar_52_3) (fun G13 s13 hB13 => ?_)
  refine j_aload_n hx 0 dX3_init_53 rfl ?_
  refine j_iconst hx dX3_init_54 ?_
  refine p24_11 hx (zB_K hB13) (zB_a hB13) kf_RX3_37 dX3_init_55 ?_
  refine j_ren (P := fun G9 s9 => zB G s0 a 4 [(11, 0, (-1)), (6, 52, 0), (5, 51, 0), (4, 50, 0), (3, 49, 0), (2, 44, 0), (1, 1, 0)] G9 s9) (zB_int hB13 rw_4 (by decide)) (fun G14 s14 hB14 => ?_)
  refine j_aload_n hx 0 dX3_init_58 rfl ?_
  refine j_aload_n hx 1 dX3_init_59 rfl ?_
  refine p24_0 hx (zB_K hB14) (zB_a hB14) kf_RX3_41 rfl rfl dX3_init_60 ?_
  refine j_ren (P := fun G9 s9 => zB G s0 a 4 [(0, 9, 0), (11, 0, (-1)), (6, 52, 0), (5, 51, 0), (4, 50, 0), (3, 49, 0), (2, 44, 0), (1, 1, 0)] G9 s9) (zB_ref hB14 rw_4 (by decide) (by decide) (zB_old hB14 hb1 (by decide) (zne ha hb1 (by decide)))) (fun G15 s15 hB15 => ?_)
  refine j_pub hB15 (by decide +kernel) cl_4 ?_
  exact j_vret hx hq rfl (by decide) (by decide) dX3_init_63 ⟨rfl, zPub_OK hB15 (by decide +kernel) cl_4, pT_eq, zPub_Y hB15, zPub_c hB15 (by decide)⟩

theorem lk_RX2_24 : LkI RX2 24 yX3_init cX3_init 2 1 := ⟨km_RX2_24, ki_yX3_init, kn_RX3, kc_yX3_init, rfl, by decide +kernel, by decide +kernel, by decide +kernel⟩
set_option maxHeartbeats 4000000 in
set_option maxRecDepth 20000 in
theorem c_X2_init {E : zE} {l : Launch} (hst : l.stackTraces = false) (a : Nat) (b1 : Nat) : Con E l yX2_init cX2_init 2 none { frames := 4, cells := 24, slots := 28599, locals := 81 } (fun G s vs => vs = [.ref a, .ref b1] ∧ zOK G s ∧ gT G a = 23 ∧ (∀ k, s a k = 0) ∧ gT G b1 = 9) (fun G s _ => pV (fun G2 s2 => zOK G2 s2 ∧ gT G2 a = 3 ∧ zYa a G s G2 s2 ∧ zNc a G G2)) := by
  refine Con.mk hst (by decide) (fun G s vs h => by rw [h.1]; exact Nat.le_of_ble_eq_true rfl) ?_
  rintro X G s0 vs ⟨rfl, hO, ha, hz, hb1⟩ rfl hx hq
  show JJ X E 2 G s0 0 0 [(0, .ref a), (1, .ref b1)] 0 []
  have hB0 := zB_0 (t := 3) hO ha hz (by decide)
  refine j_aload_n hx 0 dX2_init_0 rfl ?_
  refine j_objI hx km_RX2_3 ⟨by decide, by decide⟩ dX2_init_1 ?_
  refine j_aload_n hx 0 dX2_init_4 rfl ?_
  refine j_sipush hx dX2_init_5 rfl ?_
  refine j_newA hx (zB_K hB0) (atype := .long) (ty := .long) (kd := 3) (t := 53) (N := 21007) rfl ka_long rfl (fun _ _ h => h) (a := (21007, .inr (.inl (fun _ => zL 0)))) (fun _ => rfl) (fun _ => rfl) rfl (by decide) (by decide) ⟨Nat.le_of_ble_eq_true rfl, Nat.le_of_ble_eq_true rfl⟩ dX2_init_8 (fun q1 hq1 => ?_)
  refine p23_1 hx (zGK_push (zB_K hB0) hq1 ar_53_21007) (gT_put hq1 (zB_a hB0) (by decide)) kf_RX2_11 rfl rfl dX2_init_10 ?_
  refine j_ren (P := fun G9 s9 => zB G s0 a 3 [(1, 53, 0)] G9 s9) (zB_arr hB0 rw_3 (by decide) hq1 ar_53_21007) (fun G2 s2 hB2 => ?_)
  refine j_aload_n hx 0 dX2_init_13 rfl ?_
  refine j_sipush hx dX2_init_14 rfl ?_
  refine j_newA hx (zB_K hB2) (atype := .int) (ty := .int) (kd := 2) (t := 54) (N := 4096) rfl ka_int rfl (fun _ _ h => h) (a := (4096, .inl (fun _ => zI 0))) (fun _ => rfl) (fun _ => rfl) rfl (by decide) (by decide) ⟨Nat.le_of_ble_eq_true rfl, Nat.le_of_ble_eq_true rfl⟩ dX2_init_17 (fun q3 hq3 => ?_)
  refine p23_2 hx (zGK_push (zB_K hB2) hq3 ar_54_4096) (gT_put hq3 (zB_a hB2) (by decide)) kf_RX2_15 rfl rfl dX2_init_19 ?_
  refine j_ren (P := fun G9 s9 => zB G s0 a 3 [(2, 54, 0), (1, 53, 0)] G9 s9) (zB_arr hB2 rw_3 (by decide) hq3 ar_54_4096) (fun G4 s4 hB4 => ?_)
  refine j_aload_n hx 0 dX2_init_22 rfl ?_
  refine j_sipush hx dX2_init_23 rfl ?_
  refine j_newA hx (zB_K hB4) (atype := .int) (ty := .int) (kd := 2) (t := 55) (N := 3001) rfl ka_int rfl (fun _ _ h => h) (a := (3001, .inl (fun _ => zI 0))) (fun _ => rfl) (fun _ => rfl) rfl (by decide) (by decide) ⟨Nat.le_of_ble_eq_true rfl, Nat.le_of_ble_eq_true rfl⟩ dX2_init_26 (fun q5 hq5 => ?_)
  refine p23_3 hx (zGK_push (zB_K hB4) hq5 ar_55_3001) (gT_put hq5 (zB_a hB4) (by decide)) kf_RX2_19 rfl rfl dX2_init_28 ?_
  refine j_ren (P := fun G9 s9 => zB G s0 a 3 [(3, 55, 0), (2, 54, 0), (1, 53, 0)] G9 s9) (zB_arr hB4 rw_3 (by decide) hq5 ar_55_3001) (fun G6 s6 hB6 => ?_)
  refine j_aload_n hx 0 dX2_init_31 rfl ?_
  skip
  refine j_newO hx (zB_K hB6) (t := 24) inX3 tyX3_ok kl_RX2_22 kt_RX3 kn_RX3 rfl hf_4 he_4 ⟨Nat.le_of_ble_eq_true rfl, Nat.le_of_ble_eq_true rfl⟩ dX2_init_32 (fun q7 hq7 => ?_)
  refine j_dup hx dX2_init_35 rfl ?_
  refine j_aload_n hx 1 dX2_init_36 rfl ?_
  refine j_callI hx (c_X3_init hst q7 b1) lk_RX2_24 [.ref b1] ⟨rfl, (zB_new hB6 hq7 ar_24_0).1, (zB_new hB6 hq7 ar_24_0).2.1, (zB_new hB6 hq7 ar_24_0).2.2, (gT_put hq7 (zB_old hB6 hb1 (by decide) (zne ha hb1 (by decide))) (by decide))⟩ rfl rfl ⟨Nat.le_of_ble_eq_true rfl, Nat.le_of_ble_eq_true rfl⟩ ⟨Nat.le_of_ble_eq_true rfl, Nat.le_of_ble_eq_true rfl⟩ (k2 := 24) (n2 := 28599) rfl rfl (Nat.le_of_ble_eq_true rfl) dX2_init_37 (kV (fun G8 s8 hP8 => ?_))
  have hB8 := zB_obj hB6 hq7 hP8.1 hP8.2.1 hP8.2.2.1 hP8.2.2.2 (by decide)
  refine p23_0 hx (zB_K hB8) (zB_a hB8) kf_RX2_27 rfl rfl dX2_init_40 ?_
  refine j_ren (P := fun G9 s9 => zB G s0 a 3 [(0, 4, 0), (3, 55, 0), (2, 54, 0), (1, 53, 0)] G9 s9) (zB_ref hB8 rw_3 (by decide) (by decide) hP8.2.1) (fun G9 s9 hB9 => ?_)
  refine j_pub hB9 (by decide +kernel) cl_3 ?_
  exact j_vret hx hq rfl (by decide) (by decide) dX2_init_43 ⟨rfl, zPub_OK hB9 (by decide +kernel) cl_3, pT_eq, zPub_Y hB9, zPub_c hB9 (by decide)⟩

