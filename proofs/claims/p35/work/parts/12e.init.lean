set_option maxHeartbeats 4000000 in
set_option maxRecDepth 20000 in
theorem c_X4_init {E : zE} {l : Launch} (hst : l.stackTraces = false) (a : Nat) : Con E l yX4_init cX4_init 1 none { frames := 1, cells := 4, slots := 15171, locals := 20 } (fun G s vs => vs = [.ref a] ∧ zOK G s ∧ gT G a = 25 ∧ (∀ k, s a k = 0)) (fun G s _ => pV (fun G2 s2 => zOK G2 s2 ∧ gT G2 a = 5 ∧ zYa a G s G2 s2 ∧ zNc a G G2)) := by
  refine Con.mk hst (by decide) (fun G s vs h => by rw [h.1]; exact Nat.le_of_ble_eq_true rfl) ?_
  rintro X G s0 vs ⟨rfl, hO, ha, hz⟩ rfl hx hq
  show JJ X E 1 G s0 0 0 [(0, .ref a)] 0 []
  have hB0 := zB_0 (t := 5) hO ha hz (by decide)
  refine j_aload_n hx 0 dX4_init_0 rfl ?_
  refine j_objI hx km_RX4_3 ⟨by decide, by decide⟩ dX4_init_1 ?_
  refine j_aload_n hx 0 dX4_init_4 rfl ?_
  refine j_sipush hx dX4_init_5 rfl ?_
  refine j_newA hx (zB_K hB0) (atype := .long) (ty := .long) (kd := 3) (t := 57) (N := 323) rfl ka_long rfl (fun _ _ h => h) (a := (323, .inr (.inl (fun _ => zL 0)))) (fun _ => rfl) (fun _ => rfl) rfl (by decide) (by decide) ⟨Nat.le_of_ble_eq_true rfl, Nat.le_of_ble_eq_true rfl⟩ dX4_init_8 (fun q1 hq1 => ?_)
  refine p25_0 hx (zGK_push (zB_K hB0) hq1 ar_57_323) (gT_put hq1 (zB_a hB0) (by decide)) kf_RX4_11 rfl rfl dX4_init_10 ?_
  refine j_ren (P := fun G9 s9 => zB G s0 a 5 [(0, 57, 0)] G9 s9) (zB_arr hB0 rw_5 (by decide) hq1 ar_57_323) (fun G2 s2 hB2 => ?_)
  refine j_aload_n hx 0 dX4_init_13 rfl ?_
  refine j_sipush hx dX4_init_14 rfl ?_
  refine j_newA hx (zB_K hB2) (atype := .long) (ty := .long) (kd := 3) (t := 53) (N := 3584) rfl ka_long rfl (fun _ _ h => h) (a := (3584, .inr (.inl (fun _ => zL 0)))) (fun _ => rfl) (fun _ => rfl) rfl (by decide) (by decide) ⟨Nat.le_of_ble_eq_true rfl, Nat.le_of_ble_eq_true rfl⟩ dX4_init_17 (fun q3 hq3 => ?_)
  refine p25_1 hx (zGK_push (zB_K hB2) hq3 ar_53_3584) (gT_put hq3 (zB_a hB2) (by decide)) kf_RX4_15 rfl rfl dX4_init_19 ?_
  refine j_ren (P := fun G9 s9 => zB G s0 a 5 [(1, 53, 0), (0, 57, 0)] G9 s9) (zB_arr hB2 rw_5 (by decide) hq3 ar_53_3584) (fun G4 s4 hB4 => ?_)
  refine j_aload_n hx 0 dX4_init_22 rfl ?_
  refine j_sipush hx dX4_init_23 rfl ?_
  refine j_newA hx (zB_K hB4) (atype := .int) (ty := .int) (kd := 2) (t := 59) (N := 10752) rfl ka_int rfl (fun _ _ h => h) (a := (10752, .inl (fun _ => zI 0))) (fun _ => rfl) (fun _ => rfl) rfl (by decide) (by decide) ⟨Nat.le_of_ble_eq_true rfl, Nat.le_of_ble_eq_true rfl⟩ dX4_init_26 (fun q5 hq5 => ?_)
  refine p25_2 hx (zGK_push (zB_K hB4) hq5 ar_59_10752) (gT_put hq5 (zB_a hB4) (by decide)) kf_RX4_20 rfl rfl dX4_init_28 ?_
  refine j_ren (P := fun G9 s9 => zB G s0 a 5 [(2, 59, 0), (1, 53, 0), (0, 57, 0)] G9 s9) (zB_arr hB4 rw_5 (by decide) hq5 ar_59_10752) (fun G6 s6 hB6 => ?_)
  refine j_aload_n hx 0 dX4_init_31 rfl ?_
  refine j_sipush hx dX4_init_32 rfl ?_
  refine j_newA hx (zB_K hB6) (atype := .int) (ty := .int) (kd := 2) (t := 60) (N := 512) rfl ka_int rfl (fun _ _ h => h) (a := (512, .inl (fun _ => zI 0))) (fun _ => rfl) (fun _ => rfl) rfl (by decide) (by decide) ⟨Nat.le_of_ble_eq_true rfl, Nat.le_of_ble_eq_true rfl⟩ dX4_init_35 (fun q7 hq7 => ?_)
  refine p25_3 hx (zGK_push (zB_K hB6) hq7 ar_60_512) (gT_put hq7 (zB_a hB6) (by decide)) kf_RX4_24 rfl rfl dX4_init_37 ?_
  refine j_ren (P := fun G9 s9 => zB G s0 a 5 [(3, 60, 0), (2, 59, 0), (1, 53, 0), (0, 57, 0)] G9 s9) (zB_arr hB6 rw_5 (by decide) hq7 ar_60_512) (fun G8 s8 hB8 => ?_)
  refine j_pub hB8 (by decide +kernel) cl_5 ?_
  exact j_vret hx hq rfl (by decide) (by decide) dX4_init_40 ⟨rfl, zPub_OK hB8 (by decide +kernel) cl_5, pT_eq, zPub_Y hB8, zPub_c hB8 (by decide)⟩

theorem lk_RX5_9 : LkIN RX5 9 RX11 yX9_init cX9_init 1 0 := ⟨km_RX5_9, ki_yX9_init, kn_RX9, kc_yX9_init, rfl, by decide +kernel, by decide +kernel, by decide +kernel⟩
theorem lk_RX5_24 : LkI RX5 24 yX3_init cX3_init 2 1 := ⟨km_RX5_24, ki_yX3_init, kn_RX3, kc_yX3_init, rfl, by decide +kernel, by decide +kernel, by decide +kernel⟩
set_option maxHeartbeats 4000000 in
set_option maxRecDepth 20000 in
theorem c_X5_init {E : zE} {l : Launch} (hst : l.stackTraces = false) (a : Nat) (b1 : Nat) : Con E l yX5_init cX5_init 2 none { frames := 4, cells := 24, slots := 1424, locals := 81 } (fun G s vs => vs = [.ref a, .ref b1] ∧ zOK G s ∧ gT G a = 26 ∧ (∀ k, s a k = 0) ∧ gT G b1 = 9) (fun G s _ => pV (fun G2 s2 => zOK G2 s2 ∧ gT G2 a = 6 ∧ zYa a G s G2 s2 ∧ zNc a G G2)) := by
  refine Con.mk hst (by decide) (fun G s vs h => by rw [h.1]; exact Nat.le_of_ble_eq_true rfl) ?_
  rintro X G s0 vs ⟨rfl, hO, ha, hz, hb1⟩ rfl hx hq
  show JJ X E 2 G s0 0 0 [(0, .ref a), (1, .ref b1)] 0 []
  have hB0 := zB_0 (t := 6) hO ha hz (by decide)
  refine j_aload_n hx 0 dX5_init_0 rfl ?_
  refine j_objI hx km_RX5_1 ⟨by decide, by decide⟩ dX5_init_1 ?_
  refine j_aload_n hx 0 dX5_init_4 rfl ?_
  skip
  refine j_newO hx (zB_K hB0) (t := 30) inX9 tyX9_ok kl_RX5_7 kt_RX9 kn_RX9 rfl hf_10 he_10 ⟨Nat.le_of_ble_eq_true rfl, Nat.le_of_ble_eq_true rfl⟩ dX5_init_5 (fun q1 hq1 => ?_)
  refine j_dup hx dX5_init_8 rfl ?_
  refine j_callIN hx (c_X9_init hst q1) lk_RX5_9 [] ⟨rfl, (zB_new hB0 hq1 ar_30_0).1, (zB_new hB0 hq1 ar_30_0).2.1, (zB_new hB0 hq1 ar_30_0).2.2⟩ rfl rfl ⟨Nat.le_of_ble_eq_true rfl, Nat.le_of_ble_eq_true rfl⟩ ⟨Nat.le_of_ble_eq_true rfl, Nat.le_of_ble_eq_true rfl⟩ (k2 := 2) (n2 := 606) rfl rfl (Nat.le_of_ble_eq_true rfl) dX5_init_9 (kV (fun G2 s2 hP2 => ?_))
  have hB2 := zB_obj hB0 hq1 hP2.1 hP2.2.1 hP2.2.2.1 hP2.2.2.2 (by decide)
  refine p26_1 hx (zB_K hB2) (zB_a hB2) kf_RX5_10 rfl rfl dX5_init_12 ?_
  refine j_ren (P := fun G9 s9 => zB G s0 a 6 [(1, 10, 0)] G9 s9) (zB_ref hB2 rw_6 (by decide) (by decide) hP2.2.1) (fun G3 s3 hB3 => ?_)
  refine j_aload_n hx 0 dX5_init_15 rfl ?_
  refine j_sipush hx dX5_init_16 rfl ?_
  refine j_newA hx (zB_K hB3) (atype := .long) (ty := .long) (kd := 3) (t := 57) (N := 323) rfl ka_long rfl (fun _ _ h => h) (a := (323, .inr (.inl (fun _ => zL 0)))) (fun _ => rfl) (fun _ => rfl) rfl (by decide) (by decide) ⟨Nat.le_of_ble_eq_true rfl, Nat.le_of_ble_eq_true rfl⟩ dX5_init_19 (fun q4 hq4 => ?_)
  refine p26_2 hx (zGK_push (zB_K hB3) hq4 ar_57_323) (gT_put hq4 (zB_a hB3) (by decide)) kf_RX5_18 rfl rfl dX5_init_21 ?_
  refine j_ren (P := fun G9 s9 => zB G s0 a 6 [(2, 57, 0), (1, 10, 0)] G9 s9) (zB_arr hB3 rw_6 (by decide) hq4 ar_57_323) (fun G5 s5 hB5 => ?_)
  refine j_aload_n hx 0 dX5_init_24 rfl ?_
  skip
  refine j_newO hx (zB_K hB5) (t := 24) inX3 tyX3_ok kl_RX5_22 kt_RX3 kn_RX3 rfl hf_4 he_4 ⟨Nat.le_of_ble_eq_true rfl, Nat.le_of_ble_eq_true rfl⟩ dX5_init_25 (fun q6 hq6 => ?_)
  refine j_dup hx dX5_init_28 rfl ?_
  refine j_aload_n hx 1 dX5_init_29 rfl ?_
  refine j_callI hx (c_X3_init hst q6 b1) lk_RX5_24 [.ref b1] ⟨rfl, (zB_new hB5 hq6 ar_24_0).1, (zB_new hB5 hq6 ar_24_0).2.1, (zB_new hB5 hq6 ar_24_0).2.2, (gT_put hq6 (zB_old hB5 hb1 (by decide) (zne ha hb1 (by decide))) (by decide))⟩ rfl rfl ⟨Nat.le_of_ble_eq_true rfl, Nat.le_of_ble_eq_true rfl⟩ ⟨Nat.le_of_ble_eq_true rfl, Nat.le_of_ble_eq_true rfl⟩ (k2 := 24) (n2 := 1424) rfl rfl (Nat.le_of_ble_eq_true rfl) dX5_init_30 (kV (fun G7 s7 hP7 => ?_))
  have hB7 := zB_obj hB5 hq6 hP7.1 hP7.2.1 hP7.2.2.1 hP7.2.2.2 (by decide)
  refine p26_0 hx (zB_K hB7) (zB_a hB7) kf_RX5_27 rfl rfl dX5_init_33 ?_
  refine j_ren (P := fun G9 s9 => zB G s0 a 6 [(0, 4, 0), (2, 57, 0), (1, 10, 0)] G9 s9) (zB_ref hB7 rw_6 (by decide) (by decide) hP7.2.1) (fun G8 s8 hB8 => ?_)
  refine j_pub hB8 (by decide +kernel) cl_6 ?_
  exact j_vret hx hq rfl (by decide) (by decide) dX5_init_36 ⟨rfl, zPub_OK hB8 (by decide +kernel) cl_6, pT_eq, zPub_Y hB8, zPub_c hB8 (by decide)⟩

