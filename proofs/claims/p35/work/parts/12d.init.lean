theorem lk_RX10_21 : LkIN RX10 21 RX11 yX0_init cX0_init 1 0 := ⟨km_RX10_21, ki_yX0_init, kn_RX0, kc_yX0_init, rfl, by decide +kernel, by decide +kernel, by decide +kernel⟩
set_option maxHeartbeats 4000000 in
set_option maxRecDepth 20000 in
theorem c_X10_init {E : zE} {l : Launch} (hst : l.stackTraces = false) (a : Nat) (b1 : Nat) : Con E l yX10_init cX10_init 3 none { frames := 3, cells := 196, slots := 5772, locals := 60 } (fun G s vs => vs = [.ref a, .ref b1] ∧ zOK G s ∧ gT G a = 31 ∧ (∀ k, s a k = 0) ∧ gT G b1 = 9) (fun G s _ => pV (fun G2 s2 => zOK G2 s2 ∧ gT G2 a = 11 ∧ zYa a G s G2 s2 ∧ zNc a G G2)) := by
  refine Con.mk hst (by decide) (fun G s vs h => by rw [h.1]; exact Nat.le_of_ble_eq_true rfl) ?_
  rintro X G s0 vs ⟨rfl, hO, ha, hz, hb1⟩ rfl hx hq
  show JJ X E 3 G s0 0 0 [(0, .ref a), (1, .ref b1)] 0 []
  have hB0 := zB_0 (t := 11) hO ha hz (by decide)
  refine j_aload_n hx 0 dX10_init_0 rfl ?_
  refine j_objI hx km_RX10_3 ⟨by decide, by decide⟩ dX10_init_1 ?_
  refine j_aload_n hx 0 dX10_init_4 rfl ?_
  refine j_bipush hx dX10_init_5 rfl ?_
  refine j_newQ hx (zB_K hB0) (kd := 7) (t := 56) (N := 13) kl_RX10_11 hx.2.2.2.2.2.1.2.2.2.2.2.2.2.2.1 rfl (fun _ => rfl) rfl (by decide) ⟨Nat.le_of_ble_eq_true rfl, Nat.le_of_ble_eq_true rfl⟩ dX10_init_7 (fun q1 hq1 => ?_)
  refine p31_1 hx (zGK_push (zB_K hB0) hq1 ar_56_13) (gT_put hq1 (zB_a hB0) (by decide)) kf_RX10_13 rfl rfl dX10_init_10 ?_
  refine j_ren (P := fun G9 s9 => zB G s0 a 11 [(1, 56, 0)] G9 s9) (zB_arr hB0 rw_11 (by decide) hq1 ar_56_13) (fun G2 s2 hB2 => ?_)
  refine j_aload_n hx 0 dX10_init_13 rfl ?_
  refine j_aload_n hx 1 dX10_init_14 rfl ?_
  refine p31_0 hx (zB_K hB2) (zB_a hB2) kf_RX10_17 rfl rfl dX10_init_15 ?_
  refine j_ren (P := fun G9 s9 => zB G s0 a 11 [(0, 9, 0), (1, 56, 0)] G9 s9) (zB_ref hB2 rw_11 (by decide) (by decide) (zB_old hB2 hb1 (by decide) (zne ha hb1 (by decide)))) (fun G3 s3 hB3 => ?_)
  refine j_iconst hx dX10_init_18 ?_
  refine j_istore_n hx [(2, .int (zI 0)), (0, .ref a), (1, .ref b1)] dX10_init_19 (by decide) rfl ?_
  refine j_iload_n hx 0 dX10_init_20 rfl ?_
  refine j_aload_n hx 1 dX10_init_21 rfl ?_
  obtain ⟨t4, et4, gt4⟩ := zB_get hB3 (k := 1) (u := 56) (by decide) (by decide)
  refine j_getf hx (zB_K hB3) (zB_a hB3) (by decide) rfl rfl rfl rfl inX10 1 (by decide) kf_RX10_13 rfl dX10_init_22 (v := .ref t4) (by rw [et4]; exact zvr rfl) ?_
  refine j_alen hx (zB_K hB3) gt4 (by decide) (by decide) (zlen (zB_K hB3) gt4 (n := 13) rfl rfl) dX10_init_25 ?_
  refine j_icmp_ge hx 48 dX10_init_26 rfl ⟨by decide, by decide⟩ ⟨by decide, by decide⟩ (fun h => absurd h (by decide)) (fun h => ?_)
  refine j_aload_n hx 1 dX10_init_29 rfl ?_
  obtain ⟨t5, et5, gt5⟩ := zB_get hB3 (k := 1) (u := 56) (by decide) (by decide)
  refine j_getf hx (zB_K hB3) (zB_a hB3) (by decide) rfl rfl rfl rfl inX10 1 (by decide) kf_RX10_13 rfl dX10_init_30 (v := .ref t5) (by rw [et5]; exact zvr rfl) ?_
  refine j_iload_n hx 0 dX10_init_33 rfl ?_
  skip
  refine j_newO hx (zB_K hB3) (t := 21) inX0 tyX0_ok kl_RX10_11 kt_RX0 kn_RX0 rfl hf_1 he_1 ⟨Nat.le_of_ble_eq_true rfl, Nat.le_of_ble_eq_true rfl⟩ dX10_init_34 (fun q6 hq6 => ?_)
  refine j_dup hx dX10_init_37 rfl ?_
  refine j_callIN hx (c_X0_init hst q6) lk_RX10_21 [] ⟨rfl, (zB_new hB3 hq6 ar_21_0).1, (zB_new hB3 hq6 ar_21_0).2.1, (zB_new hB3 hq6 ar_21_0).2.2⟩ rfl rfl ⟨Nat.le_of_ble_eq_true rfl, Nat.le_of_ble_eq_true rfl⟩ ⟨Nat.le_of_ble_eq_true rfl, Nat.le_of_ble_eq_true rfl⟩ (k2 := 16) (n2 := 456) rfl rfl (Nat.le_of_ble_eq_true rfl) dX10_init_38 (kV (fun G7 s7 hP7 => ?_))
  have hB7 := zB_obj hB3 hq6 hP7.1 hP7.2.1 hP7.2.2.1 hP7.2.2.2 (by decide)
  have gp7 := zObj_T hq6 hP7.2.2.1 gt5 (by decide)
  refine j_aast7 hx (zB_K hB7) gp7 (by decide) rfl hP7.2.1 (by decide) rfl rfl rfl rfl (zlen (zB_K hB7) gp7 (n := 13) rfl rfl) (by decide) (by decide) dX10_init_41 ?_
  refine j_ren (P := fun G9 s9 => zB G s0 a 11 [(0, 9, 0), (1, 56, 0)] G9 s9) (zB_ast (u := 1) hB7 gp7 (zdyn hP7.2.1)) (fun G8 s8 hB8 => ?_)
  refine j_iinc hx 0 [(2, .int (zI 1)), (0, .ref a), (1, .ref b1)] dX10_init_42 rfl (by omega) (by decide) rfl ?_
  refine j_goto hx 20 dX10_init_45 rfl ?_
  refine j_iload_n hx 0 dX10_init_20 rfl ?_
  refine j_aload_n hx 1 dX10_init_21 rfl ?_
  obtain ⟨t9, et9, gt9⟩ := zB_get hB8 (k := 1) (u := 56) (by decide) (by decide)
  refine j_getf hx (zB_K hB8) (zB_a hB8) (by decide) rfl rfl rfl rfl inX10 1 (by decide) kf_RX10_13 rfl dX10_init_22 (v := .ref t9) (by rw [et9]; exact zvr rfl) ?_
  refine j_alen hx (zB_K hB8) gt9 (by decide) (by decide) (zlen (zB_K hB8) gt9 (n := 13) rfl rfl) dX10_init_25 ?_
  refine j_icmp_ge hx 48 dX10_init_26 rfl ⟨by decide, by decide⟩ ⟨by decide, by decide⟩ (fun h => absurd h (by decide)) (fun h => ?_)
  refine j_aload_n hx 1 dX10_init_29 rfl ?_
  obtain ⟨t10, et10, gt10⟩ := zB_get hB8 (k := 1) (u := 56) (by decide) (by decide)
  refine j_getf hx (zB_K hB8) (zB_a hB8) (by decide) rfl rfl rfl rfl inX10 1 (by decide) kf_RX10_13 rfl dX10_init_30 (v := .ref t10) (by rw [et10]; exact zvr rfl) ?_
  refine j_iload_n hx 0 dX10_init_33 rfl ?_
  skip
  refine j_newO hx (zB_K hB8) (t := 21) inX0 tyX0_ok kl_RX10_11 kt_RX0 kn_RX0 rfl hf_1 he_1 ⟨Nat.le_of_ble_eq_true rfl, Nat.le_of_ble_eq_true rfl⟩ dX10_init_34 (fun q11 hq11 => ?_)
  refine j_dup hx dX10_init_37 rfl ?_
  refine j_callIN hx (c_X0_init hst q11) lk_RX10_21 [] ⟨rfl, (zB_new hB8 hq11 ar_21_0).1, (zB_new hB8 hq11 ar_21_0).2.1, (zB_new hB8 hq11 ar_21_0).2.2⟩ rfl rfl ⟨Nat.le_of_ble_eq_true rfl, Nat.le_of_ble_eq_true rfl⟩ ⟨Nat.le_of_ble_eq_true rfl, Nat.le_of_ble_eq_true rfl⟩ (k2 := 31) (n2 := 899) rfl rfl (Nat.le_of_ble_eq_true rfl) dX10_init_38 (kV (fun G12 s12 hP12 => ?_))
  have hB12 := zB_obj hB8 hq11 hP12.1 hP12.2.1 hP12.2.2.1 hP12.2.2.2 (by decide)
  have gp12 := zObj_T hq11 hP12.2.2.1 gt10 (by decide)
  refine j_aast7 hx (zB_K hB12) gp12 (by decide) rfl hP12.2.1 (by decide) rfl rfl rfl rfl (zlen (zB_K hB12) gp12 (n := 13) rfl rfl) (by decide) (by decide) dX10_init_41 ?_
  refine j_ren (P := fun G9 s9 => zB G s0 a 11 [(0, 9, 0), (1, 56, 0)] G9 s9) (zB_ast (u := 1) hB12 gp12 (zdyn hP12.2.1)) (fun G13 s13 hB13 => ?_)
  refine j_iinc hx 0 [(2, .int (zI 2)), (0, .ref a), (1, .ref b1)] dX10_init_42 rfl (by omega) (by decide) rfl ?_
  refine j_goto hx 20 dX10_init_45 rfl ?_
  refine j_iload_n hx 0 dX10_init_20 rfl ?_
  refine j_aload_n hx 1 dX10_init_21 rfl ?_
  obtain ⟨t14, et14, gt14⟩ := zB_get hB13 (k := 1) (u := 56) (by decide) (by decide)
  refine j_getf hx (zB_K hB13) (zB_a hB13) (by decide) rfl rfl rfl rfl inX10 1 (by decide) kf_RX10_13 rfl dX10_init_22 (v := .ref t14) (by rw [et14]; exact zvr rfl) ?_
  refine j_alen hx (zB_K hB13) gt14 (by decide) (by decide) (zlen (zB_K hB13) gt14 (n := 13) rfl rfl) dX10_init_25 ?_
  refine j_icmp_ge hx 48 dX10_init_26 rfl ⟨by decide, by decide⟩ ⟨by decide, by decide⟩ (fun h => absurd h (by decide)) (fun h => ?_)
  refine j_aload_n hx 1 dX10_init_29 rfl ?_
  obtain ⟨t15, et15, gt15⟩ := zB_get hB13 (k := 1) (u := 56) (by decide) (by decide)
  refine j_getf hx (zB_K hB13) (zB_a hB13) (by decide) rfl rfl rfl rfl inX10 1 (by decide) kf_RX10_13 rfl dX10_init_30 (v := .ref t15) (by rw [et15]; exact zvr rfl) ?_
  refine j_iload_n hx 0 dX10_init_33 rfl ?_
  skip
  refine j_newO hx (zB_K hB13) (t := 21) inX0 tyX0_ok kl_RX10_11 kt_RX0 kn_RX0 rfl hf_1 he_1 ⟨Nat.le_of_ble_eq_true rfl, Nat.le_of_ble_eq_true rfl⟩ dX10_init_34 (fun q16 hq16 => ?_)
  refine j_dup hx dX10_init_37 rfl ?_
  refine j_callIN hx (c_X0_init hst q16) lk_RX10_21 [] ⟨rfl, (zB_new hB13 hq16 ar_21_0).1, (zB_new hB13 hq16 ar_21_0).2.1, (zB_new hB13 hq16 ar_21_0).2.2⟩ rfl rfl ⟨Nat.le_of_ble_eq_true rfl, Nat.le_of_ble_eq_true rfl⟩ ⟨Nat.le_of_ble_eq_true rfl, Nat.le_of_ble_eq_true rfl⟩ (k2 := 46) (n2 := 1342) rfl rfl (Nat.le_of_ble_eq_true rfl) dX10_init_38 (kV (fun G17 s17 hP17 => ?_))
  have hB17 := zB_obj hB13 hq16 hP17.1 hP17.2.1 hP17.2.2.1 hP17.2.2.2 (by decide)
  have gp17 := zObj_T hq16 hP17.2.2.1 gt15 (by decide)
  refine j_aast7 hx (zB_K hB17) gp17 (by decide) rfl hP17.2.1 (by decide) rfl rfl rfl rfl (zlen (zB_K hB17) gp17 (n := 13) rfl rfl) (by decide) (by decide) dX10_init_41 ?_
  refine j_ren (P := fun G9 s9 => zB G s0 a 11 [(0, 9, 0), (1, 56, 0)] G9 s9) (zB_ast (u := 1) hB17 gp17 (zdyn hP17.2.1)) (fun G18 s18 hB18 => ?_)
  refine j_iinc hx 0 [(2, .int (zI 3)), (0, .ref a), (1, .ref b1)] dX10_init_42 rfl (by omega) (by decide) rfl ?_
  refine j_goto hx 20 dX10_init_45 rfl ?_
  refine j_iload_n hx 0 dX10_init_20 rfl ?_
  refine j_aload_n hx 1 dX10_init_21 rfl ?_
  obtain ⟨t19, et19, gt19⟩ := zB_get hB18 (k := 1) (u := 56) (by decide) (by decide)
  refine j_getf hx (zB_K hB18) (zB_a hB18) (by decide) rfl rfl rfl rfl inX10 1 (by decide) kf_RX10_13 rfl dX10_init_22 (v := .ref t19) (by rw [et19]; exact zvr rfl) ?_
  refine j_alen hx (zB_K hB18) gt19 (by decide) (by decide) (zlen (zB_K hB18) gt19 (n := 13) rfl rfl) dX10_init_25 ?_
  refine j_icmp_ge hx 48 dX10_init_26 rfl ⟨by decide, by decide⟩ ⟨by decide, by decide⟩ (fun h => absurd h (by decide)) (fun h => ?_)
  refine j_aload_n hx 1 dX10_init_29 rfl ?_
  obtain ⟨t20, et20, gt20⟩ := zB_get hB18 (k := 1) (u := 56) (by decide) (by decide)
  refine j_getf hx (zB_K hB18) (zB_a hB18) (by decide) rfl rfl rfl rfl inX10 1 (by decide) kf_RX10_13 rfl dX10_init_30 (v := .ref t20) (by rw [et20]; exact zvr rfl) ?_
  refine j_iload_n hx 0 dX10_init_33 rfl ?_
  skip
  refine j_newO hx (zB_K hB18) (t := 21) inX0 tyX0_ok kl_RX10_11 kt_RX0 kn_RX0 rfl hf_1 he_1 ⟨Nat.le_of_ble_eq_true rfl, Nat.le_of_ble_eq_true rfl⟩ dX10_init_34 (fun q21 hq21 => ?_)
  refine j_dup hx dX10_init_37 rfl ?_
  refine j_callIN hx (c_X0_init hst q21) lk_RX10_21 [] ⟨rfl, (zB_new hB18 hq21 ar_21_0).1, (zB_new hB18 hq21 ar_21_0).2.1, (zB_new hB18 hq21 ar_21_0).2.2⟩ rfl rfl ⟨Nat.le_of_ble_eq_true rfl, Nat.le_of_ble_eq_true rfl⟩ ⟨Nat.le_of_ble_eq_true rfl, Nat.le_of_ble_eq_true rfl⟩ (k2 := 61) (n2 := 1785) rfl rfl (Nat.le_of_ble_eq_true rfl) dX10_init_38 (kV (fun G22 s22 hP22 => ?_))
  have hB22 := zB_obj hB18 hq21 hP22.1 hP22.2.1 hP22.2.2.1 hP22.2.2.2 (by decide)
  have gp22 := zObj_T hq21 hP22.2.2.1 gt20 (by decide)
  refine j_aast7 hx (zB_K hB22) gp22 (by decide) rfl hP22.2.1 (by decide) rfl rfl rfl rfl (zlen (zB_K hB22) gp22 (n := 13) rfl rfl) (by decide) (by decide) dX10_init_41 ?_
  refine j_ren (P := fun G9 s9 => zB G s0 a 11 [(0, 9, 0), (1, 56, 0)] G9 s9) (zB_ast (u := 1) hB22 gp22 (zdyn hP22.2.1)) (fun G23 s23 hB23 => ?_)
  refine j_iinc hx 0 [(2, .int (zI 4)), (0, .ref a), (1, .ref b1)] dX10_init_42 rfl (by omega) (by decide) rfl ?_
  refine j_goto hx 20 dX10_init_45 rfl ?_
  refine j_iload_n hx 0 dX10_init_20 rfl ?_
  refine j_aload_n hx 1 dX10_init_21 rfl ?_
  obtain ⟨t24, et24, gt24⟩ := zB_get hB23 (k := 1) (u := 56) (by decide) (by decide)
  refine j_getf hx (zB_K hB23) (zB_a hB23) (by decide) rfl rfl rfl rfl inX10 1 (by decide) kf_RX10_13 rfl dX10_init_22 (v := .ref t24) (by rw [et24]; exact zvr rfl) ?_
  refine j_alen hx (zB_K hB23) gt24 (by decide) (by decide) (zlen (zB_K hB23) gt24 (n := 13) rfl rfl) dX10_init_25 ?_
  refine j_icmp_ge hx 48 dX10_init_26 rfl ⟨by decide, by decide⟩ ⟨by decide, by decide⟩ (fun h => absurd h (by decide)) (fun h => ?_)
  refine j_aload_n hx 1 dX10_init_29 rfl ?_
  obtain ⟨t25, et25, gt25⟩ := zB_get hB23 (k := 1) (u := 56) (by decide) (by decide)
  refine j_getf hx (zB_K hB23) (zB_a hB23) (by decide) rfl rfl rfl rfl inX10 1 (by decide) kf_RX10_13 rfl dX10_init_30 (v := .ref t25) (by rw [et25]; exact zvr rfl) ?_
  refine j_iload_n hx 0 dX10_init_33 rfl ?_
  skip
  refine j_newO hx (zB_K hB23) (t := 21) inX0 tyX0_ok kl_RX10_11 kt_RX0 kn_RX0 rfl hf_1 he_1 ⟨Nat.le_of_ble_eq_true rfl, Nat.le_of_ble_eq_true rfl⟩ dX10_init_34 (fun q26 hq26 => ?_)
  refine j_dup hx dX10_init_37 rfl ?_
  refine j_callIN hx (c_X0_init hst q26) lk_RX10_21 [] ⟨rfl, (zB_new hB23 hq26 ar_21_0).1, (zB_new hB23 hq26 ar_21_0).2.1, (zB_new hB23 hq26 ar_21_0).2.2⟩ rfl rfl ⟨Nat.le_of_ble_eq_true rfl, Nat.le_of_ble_eq_true rfl⟩ ⟨Nat.le_of_ble_eq_true rfl, Nat.le_of_ble_eq_true rfl⟩ (k2 := 76) (n2 := 2228) rfl rfl (Nat.le_of_ble_eq_true rfl) dX10_init_38 (kV (fun G27 s27 hP27 => ?_))
  have hB27 := zB_obj hB23 hq26 hP27.1 hP27.2.1 hP27.2.2.1 hP27.2.2.2 (by decide)
  have gp27 := zObj_T hq26 hP27.2.2.1 gt25 (by decide)
  refine j_aast7 hx (zB_K hB27) gp27 (by decide) rfl hP27.2.1 (by decide) rfl rfl rfl rfl (zlen (zB_K hB27) gp27 (n := 13) rfl rfl) (by decide) (by decide) dX10_init_41 ?_
  refine j_ren (P := fun G9 s9 => zB G s0 a 11 [(0, 9, 0), (1, 56, 0)] G9 s9) (zB_ast (u := 1) hB27 gp27 (zdyn hP27.2.1)) (fun G28 s28 hB28 => ?_)
  refine j_iinc hx 0 [(2, .int (zI 5)), (0, .ref a), (1, .ref b1)] dX10_init_42 rfl (by omega) (by decide) rfl ?_
  refine j_goto hx 20 dX10_init_45 rfl ?_
  refine j_iload_n hx 0 dX10_init_20 rfl ?_
  refine j_aload_n hx 1 dX10_init_21 rfl ?_
  obtain ⟨t29, et29, gt29⟩ := zB_get hB28 (k := 1) (u := 56) (by decide) (by decide)
  refine j_getf hx (zB_K hB28) (zB_a hB28) (by decide) rfl rfl rfl rfl inX10 1 (by decide) kf_RX10_13 rfl dX10_init_22 (v := .ref t29) (by rw [et29]; exact zvr rfl) ?_
  refine j_alen hx (zB_K hB28) gt29 (by decide) (by decide) (zlen (zB_K hB28) gt29 (n := 13) rfl rfl) dX10_init_25 ?_
  refine j_icmp_ge hx 48 dX10_init_26 rfl ⟨by decide, by decide⟩ ⟨by decide, by decide⟩ (fun h => absurd h (by decide)) (fun h => ?_)
  refine j_aload_n hx 1 dX10_init_29 rfl ?_
  obtain ⟨t30, et30, gt30⟩ := zB_get hB28 (k := 1) (u := 56) (by decide) (by decide)
  refine j_getf hx (zB_K hB28) (zB_a hB28) (by decide) rfl rfl rfl rfl inX10 1 (by decide) kf_RX10_13 rfl dX10_init_30 (v := .ref t30) (by rw [et30]; exact zvr rfl) ?_
  refine j_iload_n hx 0 dX10_init_33 rfl ?_
  skip
  refine j_newO hx (zB_K hB28) (t := 21) inX0 tyX0_ok kl_RX10_11 kt_RX0 kn_RX0 rfl hf_1 he_1 ⟨Nat.le_of_ble_eq_true rfl, Nat.le_of_ble_eq_true rfl⟩ dX10_init_34 (fun q31 hq31 => ?_)
  refine j_dup hx dX10_init_37 rfl ?_
  refine j_callIN hx (c_X0_init hst q31) lk_RX10_21 [] ⟨rfl, (zB_new hB28 hq31 ar_21_0).1, (zB_new hB28 hq31 ar_21_0).2.1, (zB_new hB28 hq31 ar_21_0).2.2⟩ rfl rfl ⟨Nat.le_of_ble_eq_true rfl, Nat.le_of_ble_eq_true rfl⟩ ⟨Nat.le_of_ble_eq_true rfl, Nat.le_of_ble_eq_true rfl⟩ (k2 := 91) (n2 := 2671) rfl rfl (Nat.le_of_ble_eq_true rfl) dX10_init_38 (kV (fun G32 s32 hP32 => ?_))
  have hB32 := zB_obj hB28 hq31 hP32.1 hP32.2.1 hP32.2.2.1 hP32.2.2.2 (by decide)
  have gp32 := zObj_T hq31 hP32.2.2.1 gt30 (by decide)
  refine j_aast7 hx (zB_K hB32) gp32 (by decide) rfl hP32.2.1 (by decide) rfl rfl rfl rfl (zlen (zB_K hB32) gp32 (n := 13) rfl rfl) (by decide) (by decide) dX10_init_41 ?_
  refine j_ren (P := fun G9 s9 => zB G s0 a 11 [(0, 9, 0), (1, 56, 0)] G9 s9) (zB_ast (u := 1) hB32 gp32 (zdyn hP32.2.1)) (fun G33 s33 hB33 => ?_)
  refine j_iinc hx 0 [(2, .int (zI 6)), (0, .ref a), (1, .ref b1)] dX10_init_42 rfl (by omega) (by decide) rfl ?_
  refine j_goto hx 20 dX10_init_45 rfl ?_
  refine j_iload_n hx 0 dX10_init_20 rfl ?_
  refine j_aload_n hx 1 dX10_init_21 rfl ?_
  obtain ⟨t34, et34, gt34⟩ := zB_get hB33 (k := 1) (u := 56) (by decide) (by decide)
  refine j_getf hx (zB_K hB33) (zB_a hB33) (by decide) rfl rfl rfl rfl inX10 1 (by decide) kf_RX10_13 rfl dX10_init_22 (v := .ref t34) (by rw [et34]; exact zvr rfl) ?_
  refine j_alen hx (zB_K hB33) gt34 (by decide) (by decide) (zlen (zB_K hB33) gt34 (n := 13) rfl rfl) dX10_init_25 ?_
  refine j_icmp_ge hx 48 dX10_init_26 rfl ⟨by decide, by decide⟩ ⟨by decide, by decide⟩ (fun h => absurd h (by decide)) (fun h => ?_)
  refine j_aload_n hx 1 dX10_init_29 rfl ?_
  obtain ⟨t35, et35, gt35⟩ := zB_get hB33 (k := 1) (u := 56) (by decide) (by decide)
  refine j_getf hx (zB_K hB33) (zB_a hB33) (by decide) rfl rfl rfl rfl inX10 1 (by decide) kf_RX10_13 rfl dX10_init_30 (v := .ref t35) (by rw [et35]; exact zvr rfl) ?_
  refine j_iload_n hx 0 dX10_init_33 rfl ?_
  skip
  refine j_newO hx (zB_K hB33) (t := 21) inX0 tyX0_ok kl_RX10_11 kt_RX0 kn_RX0 rfl hf_1 he_1 ⟨Nat.le_of_ble_eq_true rfl, Nat.le_of_ble_eq_true rfl⟩ dX10_init_34 (fun q36 hq36 => ?_)
  refine j_dup hx dX10_init_37 rfl ?_
  refine j_callIN hx (c_X0_init hst q36) lk_RX10_21 [] ⟨rfl, (zB_new hB33 hq36 ar_21_0).1, (zB_new hB33 hq36 ar_21_0).2.1, (zB_new hB33 hq36 ar_21_0).2.2⟩ rfl rfl ⟨Nat.le_of_ble_eq_true rfl, Nat.le_of_ble_eq_true rfl⟩ ⟨Nat.le_of_ble_eq_true rfl, Nat.le_of_ble_eq_true rfl⟩ (k2 := 106) (n2 := 3114) rfl rfl (Nat.le_of_ble_eq_true rfl) dX10_init_38 (kV (fun G37 s37 hP37 => ?_))
  have hB37 := zB_obj hB33 hq36 hP37.1 hP37.2.1 hP37.2.2.1 hP37.2.2.2 (by decide)
  have gp37 := zObj_T hq36 hP37.2.2.1 gt35 (by decide)
  refine j_aast7 hx (zB_K hB37) gp37 (by decide) rfl hP37.2.1 (by decide) rfl rfl rfl rfl (zlen (zB_K hB37) gp37 (n := 13) rfl rfl) (by decide) (by decide) dX10_init_41 ?_
  refine j_ren (P := fun G9 s9 => zB G s0 a 11 [(0, 9, 0), (1, 56, 0)] G9 s9) (zB_ast (u := 1) hB37 gp37 (zdyn hP37.2.1)) (fun G38 s38 hB38 => ?_)
  refine j_iinc hx 0 [(2, .int (zI 7)), (0, .ref a), (1, .ref b1)] dX10_init_42 rfl (by omega) (by decide) rfl ?_
  refine j_goto hx 20 dX10_init_45 rfl ?_
  refine j_iload_n hx 0 dX10_init_20 rfl ?_
  refine j_aload_n hx 1 dX10_init_21 rfl ?_
  obtain ⟨t39, et39, gt39⟩ := zB_get hB38 (k := 1) (u := 56) (by decide) (by decide)
  refine j_getf hx (zB_K hB38) (zB_a hB38) (by decide) rfl rfl rfl rfl inX10 1 (by decide) kf_RX10_13 rfl dX10_init_22 (v := .ref t39) (by rw [et39]; exact zvr rfl) ?_
  refine j_alen hx (zB_K hB38) gt39 (by decide) (by decide) (zlen (zB_K hB38) gt39 (n := 13) rfl rfl) dX10_init_25 ?_
  refine j_icmp_ge hx 48 dX10_init_26 rfl ⟨by decide, by decide⟩ ⟨by decide, by decide⟩ (fun h => absurd h (by decide)) (fun h => ?_)
  refine j_aload_n hx 1 dX10_init_29 rfl ?_
  obtain ⟨t40, et40, gt40⟩ := zB_get hB38 (k := 1) (u := 56) (by decide) (by decide)
  refine j_getf hx (zB_K hB38) (zB_a hB38) (by decide) rfl rfl rfl rfl inX10 1 (by decide) kf_RX10_13 rfl dX10_init_30 (v := .ref t40) (by rw [et40]; exact zvr rfl) ?_
  refine j_iload_n hx 0 dX10_init_33 rfl ?_
  skip
  refine j_newO hx (zB_K hB38) (t := 21) inX0 tyX0_ok kl_RX10_11 kt_RX0 kn_RX0 rfl hf_1 he_1 ⟨Nat.le_of_ble_eq_true rfl, Nat.le_of_ble_eq_true rfl⟩ dX10_init_34 (fun q41 hq41 => ?_)
  refine j_dup hx dX10_init_37 rfl ?_
  refine j_callIN hx (c_X0_init hst q41) lk_RX10_21 [] ⟨rfl, (zB_new hB38 hq41 ar_21_0).1, (zB_new hB38 hq41 ar_21_0).2.1, (zB_new hB38 hq41 ar_21_0).2.2⟩ rfl rfl ⟨Nat.le_of_ble_eq_true rfl, Nat.le_of_ble_eq_true rfl⟩ ⟨Nat.le_of_ble_eq_true rfl, Nat.le_of_ble_eq_true rfl⟩ (k2 := 121) (n2 := 3557) rfl rfl (Nat.le_of_ble_eq_true rfl) dX10_init_38 (kV (fun G42 s42 hP42 => ?_))
  have hB42 := zB_obj hB38 hq41 hP42.1 hP42.2.1 hP42.2.2.1 hP42.2.2.2 (by decide)
  have gp42 := zObj_T hq41 hP42.2.2.1 gt40 (by decide)
  refine j_aast7 hx (zB_K hB42) gp42 (by decide) rfl hP42.2.1 (by decide) rfl rfl rfl rfl (zlen (zB_K hB42) gp42 (n := 13) rfl rfl) (by decide) (by decide) dX10_init_41 ?_
  refine j_ren (P := fun G9 s9 => zB G s0 a 11 [(0, 9, 0), (1, 56, 0)] G9 s9) (zB_ast (u := 1) hB42 gp42 (zdyn hP42.2.1)) (fun G43 s43 hB43 => ?_)
  refine j_iinc hx 0 [(2, .int (zI 8)), (0, .ref a), (1, .ref b1)] dX10_init_42 rfl (by omega) (by decide) rfl ?_
  refine j_goto hx 20 dX10_init_45 rfl ?_
  refine j_iload_n hx 0 dX10_init_20 rfl ?_
  refine j_aload_n hx 1 dX10_init_21 rfl ?_
  obtain ⟨t44, et44, gt44⟩ := zB_get hB43 (k := 1) (u := 56) (by decide) (by decide)
  refine j_getf hx (zB_K hB43) (zB_a hB43) (by decide) rfl rfl rfl rfl inX10 1 (by decide) kf_RX10_13 rfl dX10_init_22 (v := .ref t44) (by rw [et44]; exact zvr rfl) ?_
  refine j_alen hx (zB_K hB43) gt44 (by decide) (by decide) (zlen (zB_K hB43) gt44 (n := 13) rfl rfl) dX10_init_25 ?_
  refine j_icmp_ge hx 48 dX10_init_26 rfl ⟨by decide, by decide⟩ ⟨by decide, by decide⟩ (fun h => absurd h (by decide)) (fun h => ?_)
  refine j_aload_n hx 1 dX10_init_29 rfl ?_
  obtain ⟨t45, et45, gt45⟩ := zB_get hB43 (k := 1) (u := 56) (by decide) (by decide)
  refine j_getf hx (zB_K hB43) (zB_a hB43) (by decide) rfl rfl rfl rfl inX10 1 (by decide) kf_RX10_13 rfl dX10_init_30 (v := .ref t45) (by rw [et45]; exact zvr rfl) ?_
  refine j_iload_n hx 0 dX10_init_33 rfl ?_
  skip
  refine j_newO hx (zB_K hB43) (t := 21) inX0 tyX0_ok kl_RX10_11 kt_RX0 kn_RX0 rfl hf_1 he_1 ⟨Nat.le_of_ble_eq_true rfl, Nat.le_of_ble_eq_true rfl⟩ dX10_init_34 (fun q46 hq46 => ?_)
  refine j_dup hx dX10_init_37 rfl ?_
  refine j_callIN hx (c_X0_init hst q46) lk_RX10_21 [] ⟨rfl, (zB_new hB43 hq46 ar_21_0).1, (zB_new hB43 hq46 ar_21_0).2.1, (zB_new hB43 hq46 ar_21_0).2.2⟩ rfl rfl ⟨Nat.le_of_ble_eq_true rfl, Nat.le_of_ble_eq_true rfl⟩ ⟨Nat.le_of_ble_eq_true rfl, Nat.le_of_ble_eq_true rfl⟩ (k2 := 136) (n2 := 4000) rfl rfl (Nat.le_of_ble_eq_true rfl) dX10_init_38 (kV (fun G47 s47 hP47 => ?_))
  have hB47 := zB_obj hB43 hq46 hP47.1 hP47.2.1 hP47.2.2.1 hP47.2.2.2 (by decide)
  have gp47 := zObj_T hq46 hP47.2.2.1 gt45 (by decide)
  refine j_aast7 hx (zB_K hB47) gp47 (by decide) rfl hP47.2.1 (by decide) rfl rfl rfl rfl (zlen (zB_K hB47) gp47 (n := 13) rfl rfl) (by decide) (by decide) dX10_init_41 ?_
  refine j_ren (P := fun G9 s9 => zB G s0 a 11 [(0, 9, 0), (1, 56, 0)] G9 s9) (zB_ast (u := 1) hB47 gp47 (zdyn hP47.2.1)) (fun G48 s48 hB48 => ?_)
  refine j_iinc hx 0 [(2, .int (zI 9)), (0, .ref a), (1, .ref b1)] dX10_init_42 rfl (by omega) (by decide) rfl ?_
  refine j_goto hx 20 dX10_init_45 rfl ?_
  refine j_iload_n hx 0 dX10_init_20 rfl ?_
  refine j_aload_n hx 1 dX10_init_21 rfl ?_
  obtain ⟨t49, et49, gt49⟩ := zB_get hB48 (k := 1) (u := 56) (by decide) (by decide)
  refine j_getf hx (zB_K hB48) (zB_a hB48) (by decide) rfl rfl rfl rfl inX10 1 (by decide) kf_RX10_13 rfl dX10_init_22 (v := .ref t49) (by rw [et49]; exact zvr rfl) ?_
  refine j_alen hx (zB_K hB48) gt49 (by decide) (by decide) (zlen (zB_K hB48) gt49 (n := 13) rfl rfl) dX10_init_25 ?_
  refine j_icmp_ge hx 48 dX10_init_26 rfl ⟨by decide, by decide⟩ ⟨by decide, by decide⟩ (fun h => absurd h (by decide)) (fun h => ?_)
  refine j_aload_n hx 1 dX10_init_29 rfl ?_
  obtain ⟨t50, et50, gt50⟩ := zB_get hB48 (k := 1) (u := 56) (by decide) (by decide)
  refine j_getf hx (zB_K hB48) (zB_a hB48) (by decide) rfl rfl rfl rfl inX10 1 (by decide) kf_RX10_13 rfl dX10_init_30 (v := .ref t50) (by rw [et50]; exact zvr rfl) ?_
  refine j_iload_n hx 0 dX10_init_33 rfl ?_
  skip
  refine j_newO hx (zB_K hB48) (t := 21) inX0 tyX0_ok kl_RX10_11 kt_RX0 kn_RX0 rfl hf_1 he_1 ⟨Nat.le_of_ble_eq_true rfl, Nat.le_of_ble_eq_true rfl⟩ dX10_init_34 (fun q51 hq51 => ?_)
  refine j_dup hx dX10_init_37 rfl ?_
  refine j_callIN hx (c_X0_init hst q51) lk_RX10_21 [] ⟨rfl, (zB_new hB48 hq51 ar_21_0).1, (zB_new hB48 hq51 ar_21_0).2.1, (zB_new hB48 hq51 ar_21_0).2.2⟩ rfl rfl ⟨Nat.le_of_ble_eq_true rfl, Nat.le_of_ble_eq_true rfl⟩ ⟨Nat.le_of_ble_eq_true rfl, Nat.le_of_ble_eq_true rfl⟩ (k2 := 151) (n2 := 4443) rfl rfl (Nat.le_of_ble_eq_true rfl) dX10_init_38 (kV (fun G52 s52 hP52 => ?_))
  have hB52 := zB_obj hB48 hq51 hP52.1 hP52.2.1 hP52.2.2.1 hP52.2.2.2 (by decide)
  have gp52 := zObj_T hq51 hP52.2.2.1 gt50 (by decide)
  refine j_aast7 hx (zB_K hB52) gp52 (by decide) rfl hP52.2.1 (by decide) rfl rfl rfl rfl (zlen (zB_K hB52) gp52 (n := 13) rfl rfl) (by decide) (by decide) dX10_init_41 ?_
  refine j_ren (P := fun G9 s9 => zB G s0 a 11 [(0, 9, 0), (1, 56, 0)] G9 s9) (zB_ast (u := 1) hB52 gp52 (zdyn hP52.2.1)) (fun G53 s53 hB53 => ?_)
  refine j_iinc hx 0 [(2, .int (zI 10)), (0, .ref a), (1, .ref b1)] dX10_init_42 rfl (by omega) (by decide) rfl ?_
  refine j_goto hx 20 dX10_init_45 rfl ?_
  refine j_iload_n hx 0 dX10_init_20 rfl ?_
  refine j_aload_n hx 1 dX10_init_21 rfl ?_
  obtain ⟨t54, et54, gt54⟩ := zB_get hB53 (k := 1) (u := 56) (by decide) (by decide)
  refine j_getf hx (zB_K hB53) (zB_a hB53) (by decide) rfl rfl rfl rfl inX10 1 (by decide) kf_RX10_13 rfl dX10_init_22 (v := .ref t54) (by rw [et54]; exact zvr rfl) ?_
  refine j_alen hx (zB_K hB53) gt54 (by decide) (by decide) (zlen (zB_K hB53) gt54 (n := 13) rfl rfl) dX10_init_25 ?_
  refine j_icmp_ge hx 48 dX10_init_26 rfl ⟨by decide, by decide⟩ ⟨by decide, by decide⟩ (fun h => absurd h (by decide)) (fun h => ?_)
  refine j_aload_n hx 1 dX10_init_29 rfl ?_
  obtain ⟨t55, et55, gt55⟩ := zB_get hB53 (k := 1) (u := 56) (by decide) (by decide)
  refine j_getf hx (zB_K hB53) (zB_a hB53) (by decide) rfl rfl rfl rfl inX10 1 (by decide) kf_RX10_13 rfl dX10_init_30 (v := .ref t55) (by rw [et55]; exact zvr rfl) ?_
  refine j_iload_n hx 0 dX10_init_33 rfl ?_
  skip
  refine j_newO hx (zB_K hB53) (t := 21) inX0 tyX0_ok kl_RX10_11 kt_RX0 kn_RX0 rfl hf_1 he_1 ⟨Nat.le_of_ble_eq_true rfl, Nat.le_of_ble_eq_true rfl⟩ dX10_init_34 (fun q56 hq56 => ?_)
  refine j_dup hx dX10_init_37 rfl ?_
  refine j_callIN hx (c_X0_init hst q56) lk_RX10_21 [] ⟨rfl, (zB_new hB53 hq56 ar_21_0).1, (zB_new hB53 hq56 ar_21_0).2.1, (zB_new hB53 hq56 ar_21_0).2.2⟩ rfl rfl ⟨Nat.le_of_ble_eq_true rfl, Nat.le_of_ble_eq_true rfl⟩ ⟨Nat.le_of_ble_eq_true rfl, Nat.le_of_ble_eq_true rfl⟩ (k2 := 166) (n2 := 4886) rfl rfl (Nat.le_of_ble_eq_true rfl) dX10_init_38 (kV (fun G57 s57 hP57 => ?_))
  have hB57 := zB_obj hB53 hq56 hP57.1 hP57.2.1 hP57.2.2.1 hP57.2.2.2 (by decide)
  have gp57 := zObj_T hq56 hP57.2.2.1 gt55 (by decide)
  refine j_aast7 hx (zB_K hB57) gp57 (by decide) rfl hP57.2.1 (by decide) rfl rfl rfl rfl (zlen (zB_K hB57) gp57 (n := 13) rfl rfl) (by decide) (by decide) dX10_init_41 ?_
  refine j_ren (P := fun G9 s9 => zB G s0 a 11 [(0, 9, 0), (1, 56, 0)] G9 s9) (zB_ast (u := 1) hB57 gp57 (zdyn hP57.2.1)) (fun G58 s58 hB58 => ?_)
  refine j_iinc hx 0 [(2, .int (zI 11)), (0, .ref a), (1, .ref b1)] dX10_init_42 rfl (by omega) (by decide) rfl ?_
  refine j_goto hx 20 dX10_init_45 rfl ?_
  refine j_iload_n hx 0 dX10_init_20 rfl ?_
  refine j_aload_n hx 1 dX10_init_21 rfl ?_
  obtain ⟨t59, et59, gt59⟩ := zB_get hB58 (k := 1) (u := 56) (by decide) (by decide)
  refine j_getf hx (zB_K hB58) (zB_a hB58) (by decide) rfl rfl rfl rfl inX10 1 (by decide) kf_RX10_13 rfl dX10_init_22 (v := .ref t59) (by rw [et59]; exact zvr rfl) ?_
  refine j_alen hx (zB_K hB58) gt59 (by decide) (by decide) (zlen (zB_K hB58) gt59 (n := 13) rfl rfl) dX10_init_25 ?_
  refine j_icmp_ge hx 48 dX10_init_26 rfl ⟨by decide, by decide⟩ ⟨by decide, by decide⟩ (fun h => absurd h (by decide)) (fun h => ?_)
  refine j_aload_n hx 1 dX10_init_29 rfl ?_
  obtain ⟨t60, et60, gt60⟩ := zB_get hB58 (k := 1) (u := 56) (by decide) (by decide)
  refine j_getf hx (zB_K hB58) (zB_a hB58) (by decide) rfl rfl rfl rfl inX10 1 (by decide) kf_RX10_13 rfl dX10_init_30 (v := .ref t60) (by rw [et60]; exact zvr rfl) ?_
  refine j_iload_n hx 0 dX10_init_33 rfl ?_
  skip
  refine j_newO hx (zB_K hB58) (t := 21) inX0 tyX0_ok kl_RX10_11 kt_RX0 kn_RX0 rfl hf_1 he_1 ⟨Nat.le_of_ble_eq_true rfl, Nat.le_of_ble_eq_true rfl⟩ dX10_init_34 (fun q61 hq61 => ?_)
  refine j_dup hx dX10_init_37 rfl ?_
  refine j_callIN hx (c_X0_init hst q61) lk_RX10_21 [] ⟨rfl, (zB_new hB58 hq61 ar_21_0).1, (zB_new hB58 hq61 ar_21_0).2.1, (zB_new hB58 hq61 ar_21_0).2.2⟩ rfl rfl ⟨Nat.le_of_ble_eq_true rfl, Nat.le_of_ble_eq_true rfl⟩ ⟨Nat.le_of_ble_eq_true rfl, Nat.le_of_ble_eq_true rfl⟩ (k2 := 181) (n2 := 5329) rfl rfl (Nat.le_of_ble_eq_true rfl) dX10_init_38 (kV (fun G62 s62 hP62 => ?_))
  have hB62 := zB_obj hB58 hq61 hP62.1 hP62.2.1 hP62.2.2.1 hP62.2.2.2 (by decide)
  have gp62 := zObj_T hq61 hP62.2.2.1 gt60 (by decide)
  refine j_aast7 hx (zB_K hB62) gp62 (by decide) rfl hP62.2.1 (by decide) rfl rfl rfl rfl (zlen (zB_K hB62) gp62 (n := 13) rfl rfl) (by decide) (by decide) dX10_init_41 ?_
  refine j_ren (P := fun G9 s9 => zB G s0 a 11 [(0, 9, 0), (1, 56, 0)] G9 s9) (zB_ast (u := 1) hB62 gp62 (zdyn hP62.2.1)) (fun G63 s63 hB63 => ?_)
  refine j_iinc hx 0 [(2, .int (zI 12)), (0, .ref a), (1, .ref b1)] dX10_init_42 rfl (by omega) (by decide) rfl ?_
  refine j_goto hx 20 dX10_init_45 rfl ?_
  refine j_iload_n hx 0 dX10_init_20 rfl ?_
  refine j_aload_n hx 1 dX10_init_21 rfl ?_
  obtain ⟨t64, et64, gt64⟩ := zB_get hB63 (k := 1) (u := 56) (by decide) (by decide)
  refine j_getf hx (zB_K hB63) (zB_a hB63) (by decide) rfl rfl rfl rfl inX10 1 (by decide) kf_RX10_13 rfl dX10_init_22 (v := .ref t64) (by rw [et64]; exact zvr rfl) ?_
  refine j_alen hx (zB_K hB63) gt64 (by decide) (by decide) (zlen (zB_K hB63) gt64 (n := 13) rfl rfl) dX10_init_25 ?_
  refine j_icmp_ge hx 48 dX10_init_26 rfl ⟨by decide, by decide⟩ ⟨by decide, by decide⟩ (fun h => absurd h (by decide)) (fun h => ?_)
  refine j_aload_n hx 1 dX10_init_29 rfl ?_
  obtain ⟨t65, et65, gt65⟩ := zB_get hB63 (k := 1) (u := 56) (by decide) (by decide)
  refine j_getf hx (zB_K hB63) (zB_a hB63) (by decide) rfl rfl rfl rfl inX10 1 (by decide) kf_RX10_13 rfl dX10_init_30 (v := .ref t65) (by rw [et65]; exact zvr rfl) ?_
  refine j_iload_n hx 0 dX10_init_33 rfl ?_
  skip
  refine j_newO hx (zB_K hB63) (t := 21) inX0 tyX0_ok kl_RX10_11 kt_RX0 kn_RX0 rfl hf_1 he_1 ⟨Nat.le_of_ble_eq_true rfl, Nat.le_of_ble_eq_true rfl⟩ dX10_init_34 (fun q66 hq66 => ?_)
  refine j_dup hx dX10_init_37 rfl ?_
  refine j_callIN hx (c_X0_init hst q66) lk_RX10_21 [] ⟨rfl, (zB_new hB63 hq66 ar_21_0).1, (zB_new hB63 hq66 ar_21_0).2.1, (zB_new hB63 hq66 ar_21_0).2.2⟩ rfl rfl ⟨Nat.le_of_ble_eq_true rfl, Nat.le_of_ble_eq_true rfl⟩ ⟨Nat.le_of_ble_eq_true rfl, Nat.le_of_ble_eq_true rfl⟩ (k2 := 196) (n2 := 5772) rfl rfl (Nat.le_of_ble_eq_true rfl) dX10_init_38 (kV (fun G67 s67 hP67 => ?_))
  have hB67 := zB_obj hB63 hq66 hP67.1 hP67.2.1 hP67.2.2.1 hP67.2.2.2 (by decide)
  have gp67 := zObj_T hq66 hP67.2.2.1 gt65 (by decide)
  refine j_aast7 hx (zB_K hB67) gp67 (by decide) rfl hP67.2.1 (by decide) rfl rfl rfl rfl (zlen (zB_K hB67) gp67 (n := 13) rfl rfl) (by decide) (by decide) dX10_init_41 ?_
  refine j_ren (P := fun G9 s9 => zB G s0 a 11 [(0, 9, 0), (1, 56, 0)] G9 s9) (zB_ast (u := 1) hB67 gp67 (zdyn hP67.2.1)) (fun G68 s68 hB68 => ?_)
  refine j_iinc hx 0 [(2, .int (zI 13)), (0, .ref a), (1, .ref b1)] dX10_init_42 rfl (by omega) (by decide) rfl ?_
  refine j_goto hx 20 dX10_init_45 rfl ?_
  refine j_iload_n hx 0 dX10_init_20 rfl ?_
  refine j_aload_n hx 1 dX10_init_21 rfl ?_
  obtain ⟨t69, et69, gt69⟩ := zB_get hB68 (k := 1) (u := 56) (by decide) (by decide)
  refine j_getf hx (zB_K hB68) (zB_a hB68) (by decide) rfl rfl rfl rfl inX10 1 (by decide) kf_RX10_13 rfl dX10_init_22 (v := .ref t69) (by rw [et69]; exact zvr rfl) ?_
  refine j_alen hx (zB_K hB68) gt69 (by decide) (by decide) (zlen (zB_K hB68) gt69 (n := 13) rfl rfl) dX10_init_25 ?_
  refine j_icmp_ge hx 48 dX10_init_26 rfl ⟨by decide, by decide⟩ ⟨by decide, by decide⟩ (fun h => ?_) (fun h => absurd h (by decide))
  refine j_pub hB68 (by decide +kernel) cl_11 ?_
  exact j_vret hx hq rfl (by decide) (by decide) dX10_init_48 ⟨rfl, zPub_OK hB68 (by decide +kernel) cl_11, pT_eq, zPub_Y hB68, zPub_c hB68 (by decide)⟩

