theorem zDp_z {f : Nat → Int} (h : ∀ j, j < 6695 → f j = 0) : zDp f := by
  intro i hi
  refine ⟨?_, ?_⟩
  · unfold zcs zc
    dsimp only
    rw [h (515 * i + 480) (by omega), h (515 * i + 481) (by omega), h (515 * i + 482) (by omega), h (515 * i + 483) (by omega), h (515 * i + 484) (by omega), h (515 * i + 485) (by omega), h (515 * i + 486) (by omega)]
    decide
  · rw [h (515 * i + 488) (by omega)]; omega
theorem zIm_z {f : Nat → Int} (h : ∀ j, j < 39663 → f j = 0) : zIm f := by
  intro q hq
  refine ⟨?_, fun t t0 t1 p p0 p1 => ?_, fun j hj => ?_⟩
  · unfold zc
    dsimp only
    rw [h (q + 480) (by omega), h (q + 481) (by omega), h (q + 482) (by omega), h (q + 483) (by omega), h (q + 484) (by omega), h (q + 485) (by omega), h (q + 486) (by omega)]
    decide
  · have p2 : p < 150 * t + f (q + 13215 + t.toNat) := p1
    rw [h (q + 13215 + t.toNat) (by omega)] at p2
    omega
  · rw [h (q + 13215 + j) (by omega)]; decide
def zDL : List (Nat × Nat × Int) := [(57, 106, 0), (56, 105, 0), (55, 104, 0), (50, 103, 0), (49, 102, 0), (48, 101, 0), (47, 100, 0), (46, 99, 0), (45, 98, 0), (42, 95, 0), (40, 97, 0), (39, 96, 0), (37, 94, 0), (36, 93, 0), (35, 92, 0), (34, 91, 0), (33, 90, 0), (32, 89, 0), (31, 88, 0), (30, 87, 0), (29, 86, 0), (28, 85, 0), (27, 84, 0), (20, 83, 0), (19, 82, 0), (18, 81, 0), (17, 80, 0), (16, 79, 0), (15, 78, 0), (14, 77, 0), (13, 76, 0), (12, 75, 0), (11, 74, 0), (10, 73, 0), (9, 72, 0), (8, 0, (-1)), (1, 71, 0)]
/-! what holds of the model behind every call; T: no more turns than that -/
def zInv (G : zG) (s : zS) (m : Nat) (T : Int) : Prop := zc (s (gP G m 27)) ≤ 60 ∧ zc (s (gP G m 28)) ≤ 60 ∧ s (gP G m 27) 488 ≤ T ∧ s (gP G m 28) 488 ≤ T ∧ zRva (s (gP G m 34)) (s (gP G m 35)) (s (gP G m 37)) ∧ zQn (s (gP G m 17)) (s m 24) ∧ zDp (s (gP G m 55)) ∧ zIm (s (gP G m 57)) ∧ s (gP G m 57) 488 ≤ T ∧ s (gP G m 57) 13709 ≤ T ∧ s (gP G m 57) 26930 ≤ T
set_option maxHeartbeats 4000000 in
theorem zModelEnd {G0 G : zG} {s0 s1 s2 s3 : zS} {a : Nat} (hG : zGK G) (hS3 : zSK G s3) (h1 : zS1 G s1) (hm : gT G a = 13) (hY : zYa a G0 s0 G s1) (hC0 : ∀ b, b ≠ a → gT G0 b ≠ 0 → zCl (gT G0 b)) (hF2 : zFr [13, 74, 76, 77, 78] G s1 s2) (hF3 : zFr [13, 80, 81, 82, 83, 84, 85, 87, 91, 94] G s2 s3) (q3 : zc (s3 (gP G a 27)) ≤ 60 ∧ s3 (gP G a 27) 488 = 0 ∧ zc (s3 (gP G a 28)) ≤ 60 ∧ s3 (gP G a 28) 488 = 0 ∧ zQn (s3 (gP G a 17)) (s3 a 24) ∧ zRva (s3 (gP G a 34)) (s3 (gP G a 35)) (s3 (gP G a 37)) ∧ s3 a 0 = s2 a 0 ∧ s3 a 3 = s2 a 3 ∧ s3 a 4 = s2 a 4 ∧ s3 a 5 = s2 a 5 ∧ s3 a 7 = s2 a 7 ∧ s3 a 21 = s2 a 21 ∧ s3 a 22 = s2 a 22 ∧ s3 a 23 = s2 a 23 ∧ s3 a 38 = s2 a 38 ∧ s3 a 51 = s2 a 51 ∧ s3 a 52 = s2 a 52) : zInv G s3 a 0 ∧ zYa a G0 s0 G s3 := by
  have hfr : ∀ b, gT G b ∉ [13, 74, 76, 77, 78, 80, 81, 82, 83, 84, 85, 87, 91, 94] → s3 b = s1 b := fun b hb => (hF3 b (fun h => hb ((show ∀ t ∈ [13, 80, 81, 82, 83, 84, 85, 87, 91, 94], t ∈ [13, 74, 76, 77, 78, 80, 81, 82, 83, 84, 85, 87, 91, 94] by decide) _ h))).trans (hF2 b (fun h => hb ((show ∀ t ∈ [13, 74, 76, 77, 78], t ∈ [13, 74, 76, 77, 78, 80, 81, 82, 83, 84, 85, 87, 91, 94] by decide) _ h)))
  have hcl : ∀ t, zCl t → t ∉ [13, 74, 76, 77, 78, 80, 81, 82, 83, 84, 85, 87, 91, 94] := fun t ht h => by unfold zCl at ht; simp only [List.mem_cons, List.not_mem_nil, or_false] at h; omega
  have t55 : gT G (gP G a 55) = 104 := zr (k := 55) (t2 := 104) hG hm rfl
  have z55 : ∀ j, j < 6695 → s3 (gP G a 55) j = 0 := fun j hj => by
    rw [hfr _ (by rw [t55]; decide)]; exact h1.2 _ j 0 (by rw [zn hG t55 (n := 6695) rfl]; exact hj) (by rw [t55]; rfl)
  have t57 : gT G (gP G a 57) = 106 := zr (k := 57) (t2 := 106) hG hm rfl
  have z57 : ∀ j, j < 39663 → s3 (gP G a 57) j = 0 := fun j hj => by
    rw [hfr _ (by rw [t57]; decide)]; exact h1.2 _ j 0 (by rw [zn hG t57 (n := 39663) rfl]; exact hj) (by rw [t57]; rfl)
  obtain ⟨q0, q1, q2, q3, q4, q5, q6, q7, q8, q9, q10, q11, q12, q13, q14, q15, q16⟩ := q3
  refine ⟨⟨by omega, by omega, by omega, by omega, q5, q4, zDp_z z55, zIm_z z57, by rw [z57 488 (by decide)]; decide, by rw [z57 13709 (by decide)]; decide, by rw [z57 26930 (by decide)]; decide⟩, fun b hba h0 => ?_⟩
  obtain ⟨e1, e2, e3, e4⟩ := hY b hba h0
  refine ⟨e1, e2, e3, fun h6 => ?_⟩
  rw [hfr b (by rw [e1]; exact hcl _ (hC0 b hba h0))]
  exact e4 h6

set_option maxHeartbeats 4000000 in
set_option maxRecDepth 20000 in
theorem c_X12_init {E : zE} {l : Launch} (hst : l.stackTraces = false) (a : Nat) : Con E l yX12_init cX12_init 1 none { frames := 2, cells := 36, slots := 283444, locals := 44 } (fun G s vs => vs = [.ref a] ∧ zOK G s ∧ gT G a = 33 ∧ (∀ k, s a k = 0) ∧ (∀ b, b ≠ a → gT G b ≠ 0 → zCl (gT G b))) (fun G s _ => pV (fun G2 s2 => zGK G2 ∧ zSK G2 s2 ∧ zInv G2 s2 a 0 ∧ gT G2 a = 13 ∧ zYa a G s G2 s2)) := by
  refine Con.mk hst (by decide) (fun G s vs h => by rw [h.1]; exact Nat.le_of_ble_eq_true rfl) ?_
  rintro X G s0 vs ⟨rfl, hO, ha, hz, hC0⟩ rfl hx hq
  show JJ X E 1 G s0 0 0 [(0, .ref a)] 0 []
  have hB0 := zB_0 (t := 13) hO ha hz (by decide)
  refine j_aload_n hx 0 dX12_init_0 rfl ?_
  refine j_objI hx km_RX12_11 ⟨by decide, by decide⟩ dX12_init_1 ?_
  refine j_aload_n hx 0 dX12_init_4 rfl ?_
  refine j_iconst hx dX12_init_5 ?_
  refine j_newA hx (zB_K hB0) (atype := .int) (ty := .int) (kd := 2) (t := 71) (N := 2) rfl ka_int rfl (fun _ _ h => h) (a := (2, .inl (fun _ => zI 0))) (fun _ => rfl) (fun _ => rfl) rfl (by decide) (by decide) ⟨Nat.le_of_ble_eq_true rfl, Nat.le_of_ble_eq_true rfl⟩ dX12_init_6 (fun q1 hq1 => ?_)
  refine p33_1 hx (zGK_push (zB_K hB0) hq1 ar_71_2) (gT_put hq1 (zB_a hB0) (by decide)) kf_RX12_7 rfl rfl dX12_init_8 ?_
  refine j_ren (P := fun G9 s9 => zB G s0 a 13 [(1, 71, 0)] G9 s9) (zB_arr hB0 rw_13 (by decide) hq1 ar_71_2) (fun G2 s2 hB2 => ?_)
  refine j_aload_n hx 0 dX12_init_11 rfl ?_
  refine j_iconst hx dX12_init_12 ?_
  refine p33_8 hx (zB_K hB2) (zB_a hB2) kf_RX12_17 dX12_init_13 ?_
  refine j_ren (P := fun G9 s9 => zB G s0 a 13 [(8, 0, (-1)), (1, 71, 0)] G9 s9) (zB_int hB2 rw_13 (by decide)) (fun G3 s3 hB3 => ?_)
  refine j_aload_n hx 0 dX12_init_16 rfl ?_
  refine j_sipush hx dX12_init_17 rfl ?_
  refine j_newA hx (zB_K hB3) (atype := .int) (ty := .int) (kd := 2) (t := 72) (N := 600) rfl ka_int rfl (fun _ _ h => h) (a := (600, .inl (fun _ => zI 0))) (fun _ => rfl) (fun _ => rfl) rfl (by decide) (by decide) ⟨Nat.le_of_ble_eq_true rfl, Nat.le_of_ble_eq_true rfl⟩ dX12_init_20 (fun q4 hq4 => ?_)
  refine p33_9 hx (zGK_push (zB_K hB3) hq4 ar_72_600) (gT_put hq4 (zB_a hB3) (by decide)) kf_RX12_20 rfl rfl dX12_init_22 ?_
  refine j_ren (P := fun G9 s9 => zB G s0 a 13 [(9, 72, 0), (8, 0, (-1)), (1, 71, 0)] G9 s9) (zB_arr hB3 rw_13 (by decide) hq4 ar_72_600) (fun G5 s5 hB5 => ?_)
  refine j_aload_n hx 0 dX12_init_25 rfl ?_
  refine j_bipush hx dX12_init_26 rfl ?_
  refine j_newA hx (zB_K hB5) (atype := .int) (ty := .int) (kd := 2) (t := 73) (N := 12) rfl ka_int rfl (fun _ _ h => h) (a := (12, .inl (fun _ => zI 0))) (fun _ => rfl) (fun _ => rfl) rfl (by decide) (by decide) ⟨Nat.le_of_ble_eq_true rfl, Nat.le_of_ble_eq_true rfl⟩ dX12_init_28 (fun q6 hq6 => ?_)
  refine p33_10 hx (zGK_push (zB_K hB5) hq6 ar_73_12) (gT_put hq6 (zB_a hB5) (by decide)) kf_RX12_23 rfl rfl dX12_init_30 ?_
  refine j_ren (P := fun G9 s9 => zB G s0 a 13 [(10, 73, 0), (9, 72, 0), (8, 0, (-1)), (1, 71, 0)] G9 s9) (zB_arr hB5 rw_13 (by decide) hq6 ar_73_12) (fun G7 s7 hB7 => ?_)
  refine j_aload_n hx 0 dX12_init_33 rfl ?_
  refine j_iconst hx dX12_init_34 ?_
  refine j_newA hx (zB_K hB7) (atype := .int) (ty := .int) (kd := 2) (t := 74) (N := 3) rfl ka_int rfl (fun _ _ h => h) (a := (3, .inl (fun _ => zI 0))) (fun _ => rfl) (fun _ => rfl) rfl (by decide) (by decide) ⟨Nat.le_of_ble_eq_true rfl, Nat.le_of_ble_eq_true rfl⟩ dX12_init_35 (fun q8 hq8 => ?_)
  refine p33_11 hx (zGK_push (zB_K hB7) hq8 ar_74_3) (gT_put hq8 (zB_a hB7) (by decide)) kf_RX12_26 rfl rfl dX12_init_37 ?_
  refine j_ren (P := fun G9 s9 => zB G s0 a 13 [(11, 74, 0), (10, 73, 0), (9, 72, 0), (8, 0, (-1)), (1, 71, 0)] G9 s9) (zB_arr hB7 rw_13 (by decide) hq8 ar_74_3) (fun G9 s9 hB9 => ?_)
  refine j_aload_n hx 0 dX12_init_40 rfl ?_
  refine j_sipush hx dX12_init_41 rfl ?_
  refine j_newA hx (zB_K hB9) (atype := .int) (ty := .int) (kd := 2) (t := 75) (N := 180) rfl ka_int rfl (fun _ _ h => h) (a := (180, .inl (fun _ => zI 0))) (fun _ => rfl) (fun _ => rfl) rfl (by decide) (by decide) ⟨Nat.le_of_ble_eq_true rfl, Nat.le_of_ble_eq_true rfl⟩ dX12_init_44 (fun q10 hq10 => ?_)
  refine p33_12 hx (zGK_push (zB_K hB9) hq10 ar_75_180) (gT_put hq10 (zB_a hB9) (by decide)) kf_RX12_29 rfl rfl dX12_init_46 ?_
  refine j_ren (P := fun G9 s9 => zB G s0 a 13 [(12, 75, 0), (11, 74, 0), (10, 73, 0), (9, 72, 0), (8, 0, (-1)), (1, 71, 0)] G9 s9) (zB_arr hB9 rw_13 (by decide) hq10 ar_75_180) (fun G11 s11 hB11 => ?_)
  refine j_aload_n hx 0 dX12_init_49 rfl ?_
  refine j_iconst hx dX12_init_50 ?_
  refine j_newA hx (zB_K hB11) (atype := .int) (ty := .int) (kd := 2) (t := 76) (N := 3) rfl ka_int rfl (fun _ _ h => h) (a := (3, .inl (fun _ => zI 0))) (fun _ => rfl) (fun _ => rfl) rfl (by decide) (by decide) ⟨Nat.le_of_ble_eq_true rfl, Nat.le_of_ble_eq_true rfl⟩ dX12_init_51 (fun q12 hq12 => ?_)
  refine p33_13 hx (zGK_push (zB_K hB11) hq12 ar_76_3) (gT_put hq12 (zB_a hB11) (by decide)) kf_RX12_32 rfl rfl dX12_init_53 ?_
  refine j_ren (P := fun G9 s9 => zB G s0 a 13 [(13, 76, 0), (12, 75, 0), (11, 74, 0), (10, 73, 0), (9, 72, 0), (8, 0, (-1)), (1, 71, 0)] G9 s9) (zB_arr hB11 rw_13 (by decide) hq12 ar_76_3) (fun G13 s13 hB13 => ?_)
  refine j_aload_n hx 0 dX12_init_56 rfl ?_
  refine j_iconst hx dX12_init_57 ?_
  refine j_newA hx (zB_K hB13) (atype := .int) (ty := .int) (kd := 2) (t := 77) (N := 3) rfl ka_int rfl (fun _ _ h => h) (a := (3, .inl (fun _ => zI 0))) (fun _ => rfl) (fun _ => rfl) rfl (by decide) (by decide) ⟨Nat.le_of_ble_eq_true rfl, Nat.le_of_ble_eq_true rfl⟩ dX12_init_58 (fun q14 hq14 => ?_)
  refine p33_14 hx (zGK_push (zB_K hB13) hq14 ar_77_3) (gT_put hq14 (zB_a hB13) (by decide)) kf_RX12_35 rfl rfl dX12_init_60 ?_
  refine j_ren (P := fun G9 s9 => zB G s0 a 13 [(14, 77, 0), (13, 76, 0), (12, 75, 0), (11, 74, 0), (10, 73, 0), (9, 72, 0), (8, 0, (-1)), (1, 71, 0)] G9 s9) (zB_arr hB13 rw_13 (by decide) hq14 ar_77_3) (fun G15 s15 hB15 => ?_)
  refine j_aload_n hx 0 dX12_init_63 rfl ?_
  refine j_iconst hx dX12_init_64 ?_
  refine j_newA hx (zB_K hB15) (atype := .int) (ty := .int) (kd := 2) (t := 78) (N := 3) rfl ka_int rfl (fun _ _ h => h) (a := (3, .inl (fun _ => zI 0))) (fun _ => rfl) (fun _ => rfl) rfl (by decide) (by decide) ⟨Nat.le_of_ble_eq_true rfl, Nat.le_of_ble_eq_true rfl⟩ dX12_init_65 (fun q16 hq16 => ?_)
  refine p33_15 hx (zGK_push (zB_K hB15) hq16 ar_78_3) (gT_put hq16 (zB_a hB15) (by decide)) kf_RX12_38 rfl rfl dX12_init_67 ?_
  refine j_ren (P := fun G9 s9 => zB G s0 a 13 [(15, 78, 0), (14, 77, 0), (13, 76, 0), (12, 75, 0), (11, 74, 0), (10, 73, 0), (9, 72, 0), (8, 0, (-1)), (1, 71, 0)] G9 s9) (zB_arr hB15 rw_13 (by decide) hq16 ar_78_3) (fun G17 s17 hB17 => ?_)
  refine j_aload_n hx 0 dX12_init_70 rfl ?_
  refine j_bipush hx dX12_init_71 rfl ?_
  refine j_newA hx (zB_K hB17) (atype := .int) (ty := .int) (kd := 2) (t := 79) (N := 12) rfl ka_int rfl (fun _ _ h => h) (a := (12, .inl (fun _ => zI 0))) (fun _ => rfl) (fun _ => rfl) rfl (by decide) (by decide) ⟨Nat.le_of_ble_eq_true rfl, Nat.le_of_ble_eq_true rfl⟩ dX12_init_73 (fun q18 hq18 => ?_)
  refine p33_16 hx (zGK_push (zB_K hB17) hq18 ar_79_12) (gT_put hq18 (zB_a hB17) (by decide)) kf_RX12_41 rfl rfl dX12_init_75 ?_
  refine j_ren (P := fun G9 s9 => zB G s0 a 13 [(16, 79, 0), (15, 78, 0), (14, 77, 0), (13, 76, 0), (12, 75, 0), (11, 74, 0), (10, 73, 0), (9, 72, 0), (8, 0, (-1)), (1, 71, 0)] G9 s9) (zB_arr hB17 rw_13 (by decide) hq18 ar_79_12) (fun G19 s19 hB19 => ?_)
  refine j_aload_n hx 0 dX12_init_78 rfl ?_
  refine j_bipush hx dX12_init_79 rfl ?_
  refine j_newA hx (zB_K hB19) (atype := .int) (ty := .int) (kd := 2) (t := 80) (N := 12) rfl ka_int rfl (fun _ _ h => h) (a := (12, .inl (fun _ => zI 0))) (fun _ => rfl) (fun _ => rfl) rfl (by decide) (by decide) ⟨Nat.le_of_ble_eq_true rfl, Nat.le_of_ble_eq_true rfl⟩ dX12_init_81 (fun q20 hq20 => ?_)
  refine p33_17 hx (zGK_push (zB_K hB19) hq20 ar_80_12) (gT_put hq20 (zB_a hB19) (by decide)) kf_RX12_44 rfl rfl dX12_init_83 ?_
  refine j_ren (P := fun G9 s9 => zB G s0 a 13 [(17, 80, 0), (16, 79, 0), (15, 78, 0), (14, 77, 0), (13, 76, 0), (12, 75, 0), (11, 74, 0), (10, 73, 0), (9, 72, 0), (8, 0, (-1)), (1, 71, 0)] G9 s9) (zB_arr hB19 rw_13 (by decide) hq20 ar_80_12) (fun G21 s21 hB21 => ?_)
  refine j_aload_n hx 0 dX12_init_86 rfl ?_
  refine j_iconst hx dX12_init_87 ?_
  refine j_newA hx (zB_K hB21) (atype := .int) (ty := .int) (kd := 2) (t := 81) (N := 3) rfl ka_int rfl (fun _ _ h => h) (a := (3, .inl (fun _ => zI 0))) (fun _ => rfl) (fun _ => rfl) rfl (by decide) (by decide) ⟨Nat.le_of_ble_eq_true rfl, Nat.le_of_ble_eq_true rfl⟩ dX12_init_88 (fun q22 hq22 => ?_)
  refine p33_18 hx (zGK_push (zB_K hB21) hq22 ar_81_3) (gT_put hq22 (zB_a hB21) (by decide)) kf_RX12_47 rfl rfl dX12_init_90 ?_
  refine j_ren (P := fun G9 s9 => zB G s0 a 13 [(18, 81, 0), (17, 80, 0), (16, 79, 0), (15, 78, 0), (14, 77, 0), (13, 76, 0), (12, 75, 0), (11, 74, 0), (10, 73, 0), (9, 72, 0), (8, 0, (-1)), (1, 71, 0)] G9 s9) (zB_arr hB21 rw_13 (by decide) hq22 ar_81_3) (fun G23 s23 hB23 => ?_)
  refine j_aload_n hx 0 dX12_init_93 rfl ?_
  refine j_bipush hx dX12_init_94 rfl ?_
  refine j_newA hx (zB_K hB23) (atype := .int) (ty := .int) (kd := 2) (t := 82) (N := 60) rfl ka_int rfl (fun _ _ h => h) (a := (60, .inl (fun _ => zI 0))) (fun _ => rfl) (fun _ => rfl) rfl (by decide) (by decide) ⟨Nat.le_of_ble_eq_true rfl, Nat.le_of_ble_eq_true rfl⟩ dX12_init_96 (fun q24 hq24 => ?_)
  refine p33_19 hx (zGK_push (zB_K hB23) hq24 ar_82_60) (gT_put hq24 (zB_a hB23) (by decide)) kf_RX12_50 rfl rfl dX12_init_98 ?_
  refine j_ren (P := fun G9 s9 => zB G s0 a 13 [(19, 82, 0), (18, 81, 0), (17, 80, 0), (16, 79, 0), (15, 78, 0), (14, 77, 0), (13, 76, 0), (12, 75, 0), (11, 74, 0), (10, 73, 0), (9, 72, 0), (8, 0, (-1)), (1, 71, 0)] G9 s9) (zB_arr hB23 rw_13 (by decide) hq24 ar_82_60) (fun G25 s25 hB25 => ?_)
  refine j_aload_n hx 0 dX12_init_101 rfl ?_
  refine j_bipush hx dX12_init_102 rfl ?_
  refine j_newA hx (zB_K hB25) (atype := .int) (ty := .int) (kd := 2) (t := 83) (N := 12) rfl ka_int rfl (fun _ _ h => h) (a := (12, .inl (fun _ => zI 0))) (fun _ => rfl) (fun _ => rfl) rfl (by decide) (by decide) ⟨Nat.le_of_ble_eq_true rfl, Nat.le_of_ble_eq_true rfl⟩ dX12_init_104 (fun q26 hq26 => ?_)
  refine p33_20 hx (zGK_push (zB_K hB25) hq26 ar_83_12) (gT_put hq26 (zB_a hB25) (by decide)) kf_RX12_53 rfl rfl dX12_init_106 ?_
  refine j_ren (P := fun G9 s9 => zB G s0 a 13 [(20, 83, 0), (19, 82, 0), (18, 81, 0), (17, 80, 0), (16, 79, 0), (15, 78, 0), (14, 77, 0), (13, 76, 0), (12, 75, 0), (11, 74, 0), (10, 73, 0), (9, 72, 0), (8, 0, (-1)), (1, 71, 0)] G9 s9) (zB_arr hB25 rw_13 (by decide) hq26 ar_83_12) (fun G27 s27 hB27 => ?_)
  refine j_aload_n hx 0 dX12_init_109 rfl ?_
  refine j_sipush hx dX12_init_110 rfl ?_
  refine j_newA hx (zB_K hB27) (atype := .int) (ty := .int) (kd := 2) (t := 84) (N := 515) rfl ka_int rfl (fun _ _ h => h) (a := (515, .inl (fun _ => zI 0))) (fun _ => rfl) (fun _ => rfl) rfl (by decide) (by decide) ⟨Nat.le_of_ble_eq_true rfl, Nat.le_of_ble_eq_true rfl⟩ dX12_init_113 (fun q28 hq28 => ?_)
  refine p33_27 hx (zGK_push (zB_K hB27) hq28 ar_84_515) (gT_put hq28 (zB_a hB27) (by decide)) kf_RX12_56 rfl rfl dX12_init_115 ?_
  refine j_ren (P := fun G9 s9 => zB G s0 a 13 [(27, 84, 0), (20, 83, 0), (19, 82, 0), (18, 81, 0), (17, 80, 0), (16, 79, 0), (15, 78, 0), (14, 77, 0), (13, 76, 0), (12, 75, 0), (11, 74, 0), (10, 73, 0), (9, 72, 0), (8, 0, (-1)), (1, 71, 0)] G9 s9) (zB_arr hB27 rw_13 (by decide) hq28 ar_84_515) (fun G29 s29 hB29 => ?_)
  refine j_aload_n hx 0 dX12_init_118 rfl ?_
  refine j_sipush hx dX12_init_119 rfl ?_
  refine j_newA hx (zB_K hB29) (atype := .int) (ty := .int) (kd := 2) (t := 85) (N := 515) rfl ka_int rfl (fun _ _ h => h) (a := (515, .inl (fun _ => zI 0))) (fun _ => rfl) (fun _ => rfl) rfl (by decide) (by decide) ⟨Nat.le_of_ble_eq_true rfl, Nat.le_of_ble_eq_true rfl⟩ dX12_init_122 (fun q30 hq30 => ?_)
  refine p33_28 hx (zGK_push (zB_K hB29) hq30 ar_85_515) (gT_put hq30 (zB_a hB29) (by decide)) kf_RX12_59 rfl rfl dX12_init_124 ?_
  refine j_ren (P := fun G9 s9 => zB G s0 a 13 [(28, 85, 0), (27, 84, 0), (20, 83, 0), (19, 82, 0), (18, 81, 0), (17, 80, 0), (16, 79, 0), (15, 78, 0), (14, 77, 0), (13, 76, 0), (12, 75, 0), (11, 74, 0), (10, 73, 0), (9, 72, 0), (8, 0, (-1)), (1, 71, 0)] G9 s9) (zB_arr hB29 rw_13 (by decide) hq30 ar_85_515) (fun G31 s31 hB31 => ?_)
  refine j_aload_n hx 0 dX12_init_127 rfl ?_
  refine j_sipush hx dX12_init_128 rfl ?_
  refine j_newA hx (zB_K hB31) (atype := .int) (ty := .int) (kd := 2) (t := 86) (N := 10000) rfl ka_int rfl (fun _ _ h => h) (a := (10000, .inl (fun _ => zI 0))) (fun _ => rfl) (fun _ => rfl) rfl (by decide) (by decide) ⟨Nat.le_of_ble_eq_true rfl, Nat.le_of_ble_eq_true rfl⟩ dX12_init_131 (fun q32 hq32 => ?_)
  refine p33_29 hx (zGK_push (zB_K hB31) hq32 ar_86_10000) (gT_put hq32 (zB_a hB31) (by decide)) kf_RX12_62 rfl rfl dX12_init_133 ?_
  refine j_ren (P := fun G9 s9 => zB G s0 a 13 [(29, 86, 0), (28, 85, 0), (27, 84, 0), (20, 83, 0), (19, 82, 0), (18, 81, 0), (17, 80, 0), (16, 79, 0), (15, 78, 0), (14, 77, 0), (13, 76, 0), (12, 75, 0), (11, 74, 0), (10, 73, 0), (9, 72, 0), (8, 0, (-1)), (1, 71, 0)] G9 s9) (zB_arr hB31 rw_13 (by decide) hq32 ar_86_10000) (fun G33 s33 hB33 => ?_)
  refine j_aload_n hx 0 dX12_init_136 rfl ?_
  refine j_iconst hx dX12_init_137 ?_
  refine j_newA hx (zB_K hB33) (atype := .int) (ty := .int) (kd := 2) (t := 87) (N := 5) rfl ka_int rfl (fun _ _ h => h) (a := (5, .inl (fun _ => zI 0))) (fun _ => rfl) (fun _ => rfl) rfl (by decide) (by decide) ⟨Nat.le_of_ble_eq_true rfl, Nat.le_of_ble_eq_true rfl⟩ dX12_init_138 (fun q34 hq34 => ?_)
  refine p33_30 hx (zGK_push (zB_K hB33) hq34 ar_87_5) (gT_put hq34 (zB_a hB33) (by decide)) kf_RX12_65 rfl rfl dX12_init_140 ?_
  refine j_ren (P := fun G9 s9 => zB G s0 a 13 [(30, 87, 0), (29, 86, 0), (28, 85, 0), (27, 84, 0), (20, 83, 0), (19, 82, 0), (18, 81, 0), (17, 80, 0), (16, 79, 0), (15, 78, 0), (14, 77, 0), (13, 76, 0), (12, 75, 0), (11, 74, 0), (10, 73, 0), (9, 72, 0), (8, 0, (-1)), (1, 71, 0)] G9 s9) (zB_arr hB33 rw_13 (by decide) hq34 ar_87_5) (fun G35 s35 hB35 => ?_)
  refine j_aload_n hx 0 dX12_init_143 rfl ?_
  refine j_sipush hx dX12_init_144 rfl ?_
  refine j_newA hx (zB_K hB35) (atype := .int) (ty := .int) (kd := 2) (t := 88) (N := 150) rfl ka_int rfl (fun _ _ h => h) (a := (150, .inl (fun _ => zI 0))) (fun _ => rfl) (fun _ => rfl) rfl (by decide) (by decide) ⟨Nat.le_of_ble_eq_true rfl, Nat.le_of_ble_eq_true rfl⟩ dX12_init_147 (fun q36 hq36 => ?_)
  refine p33_31 hx (zGK_push (zB_K hB35) hq36 ar_88_150) (gT_put hq36 (zB_a hB35) (by decide)) kf_RX12_68 rfl rfl dX12_init_149 ?_
  refine j_ren (P := fun G9 s9 => zB G s0 a 13 [(31, 88, 0), (30, 87, 0), (29, 86, 0), (28, 85, 0), (27, 84, 0), (20, 83, 0), (19, 82, 0), (18, 81, 0), (17, 80, 0), (16, 79, 0), (15, 78, 0), (14, 77, 0), (13, 76, 0), (12, 75, 0), (11, 74, 0), (10, 73, 0), (9, 72, 0), (8, 0, (-1)), (1, 71, 0)] G9 s9) (zB_arr hB35 rw_13 (by decide) hq36 ar_88_150) (fun G37 s37 hB37 => ?_)
  refine j_aload_n hx 0 dX12_init_152 rfl ?_
  refine j_sipush hx dX12_init_153 rfl ?_
  refine j_newA hx (zB_K hB37) (atype := .int) (ty := .int) (kd := 2) (t := 89) (N := 150) rfl ka_int rfl (fun _ _ h => h) (a := (150, .inl (fun _ => zI 0))) (fun _ => rfl) (fun _ => rfl) rfl (by decide) (by decide) ⟨Nat.le_of_ble_eq_true rfl, Nat.le_of_ble_eq_true rfl⟩ dX12_init_156 (fun q38 hq38 => ?_)
  refine p33_32 hx (zGK_push (zB_K hB37) hq38 ar_89_150) (gT_put hq38 (zB_a hB37) (by decide)) kf_RX12_71 rfl rfl dX12_init_158 ?_
  refine j_ren (P := fun G9 s9 => zB G s0 a 13 [(32, 89, 0), (31, 88, 0), (30, 87, 0), (29, 86, 0), (28, 85, 0), (27, 84, 0), (20, 83, 0), (19, 82, 0), (18, 81, 0), (17, 80, 0), (16, 79, 0), (15, 78, 0), (14, 77, 0), (13, 76, 0), (12, 75, 0), (11, 74, 0), (10, 73, 0), (9, 72, 0), (8, 0, (-1)), (1, 71, 0)] G9 s9) (zB_arr hB37 rw_13 (by decide) hq38 ar_89_150) (fun G39 s39 hB39 => ?_)
  refine j_aload_n hx 0 dX12_init_161 rfl ?_
  refine j_sipush hx dX12_init_162 rfl ?_
  refine j_newA hx (zB_K hB39) (atype := .int) (ty := .int) (kd := 2) (t := 90) (N := 150) rfl ka_int rfl (fun _ _ h => h) (a := (150, .inl (fun _ => zI 0))) (fun _ => rfl) (fun _ => rfl) rfl (by decide) (by decide) ⟨Nat.le_of_ble_eq_true rfl, Nat.le_of_ble_eq_true rfl⟩ dX12_init_165 (fun q40 hq40 => ?_)
  refine p33_33 hx (zGK_push (zB_K hB39) hq40 ar_90_150) (gT_put hq40 (zB_a hB39) (by decide)) kf_RX12_74 rfl rfl dX12_init_167 ?_
  refine j_ren (P := fun G9 s9 => zB G s0 a 13 [(33, 90, 0), (32, 89, 0), (31, 88, 0), (30, 87, 0), (29, 86, 0), (28, 85, 0), (27, 84, 0), (20, 83, 0), (19, 82, 0), (18, 81, 0), (17, 80, 0), (16, 79, 0), (15, 78, 0), (14, 77, 0), (13, 76, 0), (12, 75, 0), (11, 74, 0), (10, 73, 0), (9, 72, 0), (8, 0, (-1)), (1, 71, 0)] G9 s9) (zB_arr hB39 rw_13 (by decide) hq40 ar_90_150) (fun G41 s41 hB41 => ?_)
  refine j_aload_n hx 0 dX12_init_170 rfl ?_
  refine j_sipush hx dX12_init_171 rfl ?_
  refine j_newA hx (zB_K hB41) (atype := .int) (ty := .int) (kd := 2) (t := 91) (N := 900) rfl ka_int rfl (fun _ _ h => h) (a := (900, .inl (fun _ => zI 0))) (fun _ => rfl) (fun _ => rfl) rfl (by decide) (by decide) ⟨Nat.le_of_ble_eq_true rfl, Nat.le_of_ble_eq_true rfl⟩ dX12_init_174 (fun q42 hq42 => ?_)
  refine p33_34 hx (zGK_push (zB_K hB41) hq42 ar_91_900) (gT_put hq42 (zB_a hB41) (by decide)) kf_RX12_77 rfl rfl dX12_init_176 ?_
  refine j_ren (P := fun G9 s9 => zB G s0 a 13 [(34, 91, 0), (33, 90, 0), (32, 89, 0), (31, 88, 0), (30, 87, 0), (29, 86, 0), (28, 85, 0), (27, 84, 0), (20, 83, 0), (19, 82, 0), (18, 81, 0), (17, 80, 0), (16, 79, 0), (15, 78, 0), (14, 77, 0), (13, 76, 0), (12, 75, 0), (11, 74, 0), (10, 73, 0), (9, 72, 0), (8, 0, (-1)), (1, 71, 0)] G9 s9) (zB_arr hB41 rw_13 (by decide) hq42 ar_91_900) (fun G43 s43 hB43 => ?_)
  refine j_aload_n hx 0 dX12_init_179 rfl ?_
  refine j_sipush hx dX12_init_180 rfl ?_
  refine j_newA hx (zB_K hB43) (atype := .int) (ty := .int) (kd := 2) (t := 92) (N := 900) rfl ka_int rfl (fun _ _ h => h) (a := (900, .inl (fun _ => zI 0))) (fun _ => rfl) (fun _ => rfl) rfl (by decide) (by decide) ⟨Nat.le_of_ble_eq_true rfl, Nat.le_of_ble_eq_true rfl⟩ dX12_init_183 (fun q44 hq44 => ?_)
  refine p33_35 hx (zGK_push (zB_K hB43) hq44 ar_92_900) (gT_put hq44 (zB_a hB43) (by decide)) kf_RX12_80 rfl rfl dX12_init_185 ?_
  refine j_ren (P := fun G9 s9 => zB G s0 a 13 [(35, 92, 0), (34, 91, 0), (33, 90, 0), (32, 89, 0), (31, 88, 0), (30, 87, 0), (29, 86, 0), (28, 85, 0), (27, 84, 0), (20, 83, 0), (19, 82, 0), (18, 81, 0), (17, 80, 0), (16, 79, 0), (15, 78, 0), (14, 77, 0), (13, 76, 0), (12, 75, 0), (11, 74, 0), (10, 73, 0), (9, 72, 0), (8, 0, (-1)), (1, 71, 0)] G9 s9) (zB_arr hB43 rw_13 (by decide) hq44 ar_92_900) (fun G45 s45 hB45 => ?_)
  refine j_aload_n hx 0 dX12_init_188 rfl ?_
  refine j_sipush hx dX12_init_189 rfl ?_
  refine j_newA hx (zB_K hB45) (atype := .int) (ty := .int) (kd := 2) (t := 93) (N := 900) rfl ka_int rfl (fun _ _ h => h) (a := (900, .inl (fun _ => zI 0))) (fun _ => rfl) (fun _ => rfl) rfl (by decide) (by decide) ⟨Nat.le_of_ble_eq_true rfl, Nat.le_of_ble_eq_true rfl⟩ dX12_init_192 (fun q46 hq46 => ?_)
  refine p33_36 hx (zGK_push (zB_K hB45) hq46 ar_93_900) (gT_put hq46 (zB_a hB45) (by decide)) kf_RX12_83 rfl rfl dX12_init_194 ?_
  refine j_ren (P := fun G9 s9 => zB G s0 a 13 [(36, 93, 0), (35, 92, 0), (34, 91, 0), (33, 90, 0), (32, 89, 0), (31, 88, 0), (30, 87, 0), (29, 86, 0), (28, 85, 0), (27, 84, 0), (20, 83, 0), (19, 82, 0), (18, 81, 0), (17, 80, 0), (16, 79, 0), (15, 78, 0), (14, 77, 0), (13, 76, 0), (12, 75, 0), (11, 74, 0), (10, 73, 0), (9, 72, 0), (8, 0, (-1)), (1, 71, 0)] G9 s9) (zB_arr hB45 rw_13 (by decide) hq46 ar_93_900) (fun G47 s47 hB47 => ?_)
  refine j_aload_n hx 0 dX12_init_197 rfl ?_
  refine j_bipush hx dX12_init_198 rfl ?_
  refine j_newA hx (zB_K hB47) (atype := .int) (ty := .int) (kd := 2) (t := 94) (N := 6) rfl ka_int rfl (fun _ _ h => h) (a := (6, .inl (fun _ => zI 0))) (fun _ => rfl) (fun _ => rfl) rfl (by decide) (by decide) ⟨Nat.le_of_ble_eq_true rfl, Nat.le_of_ble_eq_true rfl⟩ dX12_init_200 (fun q48 hq48 => ?_)
  refine p33_37 hx (zGK_push (zB_K hB47) hq48 ar_94_6) (gT_put hq48 (zB_a hB47) (by decide)) kf_RX12_86 rfl rfl dX12_init_202 ?_
  refine j_ren (P := fun G9 s9 => zB G s0 a 13 [(37, 94, 0), (36, 93, 0), (35, 92, 0), (34, 91, 0), (33, 90, 0), (32, 89, 0), (31, 88, 0), (30, 87, 0), (29, 86, 0), (28, 85, 0), (27, 84, 0), (20, 83, 0), (19, 82, 0), (18, 81, 0), (17, 80, 0), (16, 79, 0), (15, 78, 0), (14, 77, 0), (13, 76, 0), (12, 75, 0), (11, 74, 0), (10, 73, 0), (9, 72, 0), (8, 0, (-1)), (1, 71, 0)] G9 s9) (zB_arr hB47 rw_13 (by decide) hq48 ar_94_6) (fun G49 s49 hB49 => ?_)
  refine j_aload_n hx 0 dX12_init_205 rfl ?_
  refine j_bipush hx dX12_init_206 rfl ?_
  refine j_newA hx (zB_K hB49) (atype := .int) (ty := .int) (kd := 2) (t := 96) (N := 24) rfl ka_int rfl (fun _ _ h => h) (a := (24, .inl (fun _ => zI 0))) (fun _ => rfl) (fun _ => rfl) rfl (by decide) (by decide) ⟨Nat.le_of_ble_eq_true rfl, Nat.le_of_ble_eq_true rfl⟩ dX12_init_208 (fun q50 hq50 => ?_)
  refine p33_39 hx (zGK_push (zB_K hB49) hq50 ar_96_24) (gT_put hq50 (zB_a hB49) (by decide)) kf_RX12_89 rfl rfl dX12_init_210 ?_
  refine j_ren (P := fun G9 s9 => zB G s0 a 13 [(39, 96, 0), (37, 94, 0), (36, 93, 0), (35, 92, 0), (34, 91, 0), (33, 90, 0), (32, 89, 0), (31, 88, 0), (30, 87, 0), (29, 86, 0), (28, 85, 0), (27, 84, 0), (20, 83, 0), (19, 82, 0), (18, 81, 0), (17, 80, 0), (16, 79, 0), (15, 78, 0), (14, 77, 0), (13, 76, 0), (12, 75, 0), (11, 74, 0), (10, 73, 0), (9, 72, 0), (8, 0, (-1)), (1, 71, 0)] G9 s9) (zB_arr hB49 rw_13 (by decide) hq50 ar_96_24) (fun G51 s51 hB51 => ?_)
  refine j_aload_n hx 0 dX12_init_213 rfl ?_
  refine j_bipush hx dX12_init_214 rfl ?_
  refine j_newA hx (zB_K hB51) (atype := .int) (ty := .int) (kd := 2) (t := 97) (N := 24) rfl ka_int rfl (fun _ _ h => h) (a := (24, .inl (fun _ => zI 0))) (fun _ => rfl) (fun _ => rfl) rfl (by decide) (by decide) ⟨Nat.le_of_ble_eq_true rfl, Nat.le_of_ble_eq_true rfl⟩ dX12_init_216 (fun q52 hq52 => ?_)
  refine p33_40 hx (zGK_push (zB_K hB51) hq52 ar_97_24) (gT_put hq52 (zB_a hB51) (by decide)) kf_RX12_92 rfl rfl dX12_init_218 ?_
  refine j_ren (P := fun G9 s9 => zB G s0 a 13 [(40, 97, 0), (39, 96, 0), (37, 94, 0), (36, 93, 0), (35, 92, 0), (34, 91, 0), (33, 90, 0), (32, 89, 0), (31, 88, 0), (30, 87, 0), (29, 86, 0), (28, 85, 0), (27, 84, 0), (20, 83, 0), (19, 82, 0), (18, 81, 0), (17, 80, 0), (16, 79, 0), (15, 78, 0), (14, 77, 0), (13, 76, 0), (12, 75, 0), (11, 74, 0), (10, 73, 0), (9, 72, 0), (8, 0, (-1)), (1, 71, 0)] G9 s9) (zB_arr hB51 rw_13 (by decide) hq52 ar_97_24) (fun G53 s53 hB53 => ?_)
  refine j_aload_n hx 0 dX12_init_221 rfl ?_
  refine j_sipush hx dX12_init_222 rfl ?_
  refine j_newA hx (zB_K hB53) (atype := .boolean) (ty := .boolean) (kd := 5) (t := 95) (N := 150) rfl ka_boolean rfl (fun _ _ h => h) (a := (150, .inl (fun _ => zI 0))) (fun _ => rfl) (fun _ => rfl) rfl (by decide) (by decide) ⟨Nat.le_of_ble_eq_true rfl, Nat.le_of_ble_eq_true rfl⟩ dX12_init_225 (fun q54 hq54 => ?_)
  refine p33_42 hx (zGK_push (zB_K hB53) hq54 ar_95_150) (gT_put hq54 (zB_a hB53) (by decide)) kf_RX12_95 rfl rfl dX12_init_227 ?_
  refine j_ren (P := fun G9 s9 => zB G s0 a 13 [(42, 95, 0), (40, 97, 0), (39, 96, 0), (37, 94, 0), (36, 93, 0), (35, 92, 0), (34, 91, 0), (33, 90, 0), (32, 89, 0), (31, 88, 0), (30, 87, 0), (29, 86, 0), (28, 85, 0), (27, 84, 0), (20, 83, 0), (19, 82, 0), (18, 81, 0), (17, 80, 0), (16, 79, 0), (15, 78, 0), (14, 77, 0), (13, 76, 0), (12, 75, 0), (11, 74, 0), (10, 73, 0), (9, 72, 0), (8, 0, (-1)), (1, 71, 0)] G9 s9) (zB_arr hB53 rw_13 (by decide) hq54 ar_95_150) (fun G55 s55 hB55 => ?_)
  refine j_aload_n hx 0 dX12_init_230 rfl ?_
  refine j_iconst hx dX12_init_231 ?_
  refine j_newA hx (zB_K hB55) (atype := .int) (ty := .int) (kd := 2) (t := 98) (N := 3) rfl ka_int rfl (fun _ _ h => h) (a := (3, .inl (fun _ => zI 0))) (fun _ => rfl) (fun _ => rfl) rfl (by decide) (by decide) ⟨Nat.le_of_ble_eq_true rfl, Nat.le_of_ble_eq_true rfl⟩ dX12_init_232 (fun q56 hq56 => ?_)
  refine p33_45 hx (zGK_push (zB_K hB55) hq56 ar_98_3) (gT_put hq56 (zB_a hB55) (by decide)) kf_RX12_99 rfl rfl dX12_init_234 ?_
  refine j_ren (P := fun G9 s9 => zB G s0 a 13 [(45, 98, 0), (42, 95, 0), (40, 97, 0), (39, 96, 0), (37, 94, 0), (36, 93, 0), (35, 92, 0), (34, 91, 0), (33, 90, 0), (32, 89, 0), (31, 88, 0), (30, 87, 0), (29, 86, 0), (28, 85, 0), (27, 84, 0), (20, 83, 0), (19, 82, 0), (18, 81, 0), (17, 80, 0), (16, 79, 0), (15, 78, 0), (14, 77, 0), (13, 76, 0), (12, 75, 0), (11, 74, 0), (10, 73, 0), (9, 72, 0), (8, 0, (-1)), (1, 71, 0)] G9 s9) (zB_arr hB55 rw_13 (by decide) hq56 ar_98_3) (fun G57 s57 hB57 => ?_)
  refine j_aload_n hx 0 dX12_init_237 rfl ?_
  refine j_sipush hx dX12_init_238 rfl ?_
  refine j_newA hx (zB_K hB57) (atype := .int) (ty := .int) (kd := 2) (t := 99) (N := 515) rfl ka_int rfl (fun _ _ h => h) (a := (515, .inl (fun _ => zI 0))) (fun _ => rfl) (fun _ => rfl) rfl (by decide) (by decide) ⟨Nat.le_of_ble_eq_true rfl, Nat.le_of_ble_eq_true rfl⟩ dX12_init_241 (fun q58 hq58 => ?_)
  refine p33_46 hx (zGK_push (zB_K hB57) hq58 ar_99_515) (gT_put hq58 (zB_a hB57) (by decide)) kf_RX12_102 rfl rfl dX12_init_243 ?_
  refine j_ren (P := fun G9 s9 => zB G s0 a 13 [(46, 99, 0), (45, 98, 0), (42, 95, 0), (40, 97, 0), (39, 96, 0), (37, 94, 0), (36, 93, 0), (35, 92, 0), (34, 91, 0), (33, 90, 0), (32, 89, 0), (31, 88, 0), (30, 87, 0), (29, 86, 0), (28, 85, 0), (27, 84, 0), (20, 83, 0), (19, 82, 0), (18, 81, 0), (17, 80, 0), (16, 79, 0), (15, 78, 0), (14, 77, 0), (13, 76, 0), (12, 75, 0), (11, 74, 0), (10, 73, 0), (9, 72, 0), (8, 0, (-1)), (1, 71, 0)] G9 s9) (zB_arr hB57 rw_13 (by decide) hq58 ar_99_515) (fun G59 s59 hB59 => ?_)
  refine j_aload_n hx 0 dX12_init_246 rfl ?_
  refine j_iconst hx dX12_init_247 ?_
  refine j_newA hx (zB_K hB59) (atype := .int) (ty := .int) (kd := 2) (t := 100) (N := 5) rfl ka_int rfl (fun _ _ h => h) (a := (5, .inl (fun _ => zI 0))) (fun _ => rfl) (fun _ => rfl) rfl (by decide) (by decide) ⟨Nat.le_of_ble_eq_true rfl, Nat.le_of_ble_eq_true rfl⟩ dX12_init_248 (fun q60 hq60 => ?_)
  refine p33_47 hx (zGK_push (zB_K hB59) hq60 ar_100_5) (gT_put hq60 (zB_a hB59) (by decide)) kf_RX12_105 rfl rfl dX12_init_250 ?_
  refine j_ren (P := fun G9 s9 => zB G s0 a 13 [(47, 100, 0), (46, 99, 0), (45, 98, 0), (42, 95, 0), (40, 97, 0), (39, 96, 0), (37, 94, 0), (36, 93, 0), (35, 92, 0), (34, 91, 0), (33, 90, 0), (32, 89, 0), (31, 88, 0), (30, 87, 0), (29, 86, 0), (28, 85, 0), (27, 84, 0), (20, 83, 0), (19, 82, 0), (18, 81, 0), (17, 80, 0), (16, 79, 0), (15, 78, 0), (14, 77, 0), (13, 76, 0), (12, 75, 0), (11, 74, 0), (10, 73, 0), (9, 72, 0), (8, 0, (-1)), (1, 71, 0)] G9 s9) (zB_arr hB59 rw_13 (by decide) hq60 ar_100_5) (fun G61 s61 hB61 => ?_)
  refine j_aload_n hx 0 dX12_init_253 rfl ?_
  refine j_ldc hx (c := 210070) dX12_init_254 kk_RX12_108 (by decide) ?_
  refine j_newA hx (zB_K hB61) (atype := .int) (ty := .int) (kd := 2) (t := 101) (N := 210070) rfl ka_int rfl (fun _ _ h => h) (a := (210070, .inl (fun _ => zI 0))) (fun _ => rfl) (fun _ => rfl) rfl (by decide) (by decide) ⟨Nat.le_of_ble_eq_true rfl, Nat.le_of_ble_eq_true rfl⟩ dX12_init_256 (fun q62 hq62 => ?_)
  refine p33_48 hx (zGK_push (zB_K hB61) hq62 ar_101_210070) (gT_put hq62 (zB_a hB61) (by decide)) kf_RX12_109 rfl rfl dX12_init_258 ?_
  refine j_ren (P := fun G9 s9 => zB G s0 a 13 [(48, 101, 0), (47, 100, 0), (46, 99, 0), (45, 98, 0), (42, 95, 0), (40, 97, 0), (39, 96, 0), (37, 94, 0), (36, 93, 0), (35, 92, 0), (34, 91, 0), (33, 90, 0), (32, 89, 0), (31, 88, 0), (30, 87, 0), (29, 86, 0), (28, 85, 0), (27, 84, 0), (20, 83, 0), (19, 82, 0), (18, 81, 0), (17, 80, 0), (16, 79, 0), (15, 78, 0), (14, 77, 0), (13, 76, 0), (12, 75, 0), (11, 74, 0), (10, 73, 0), (9, 72, 0), (8, 0, (-1)), (1, 71, 0)] G9 s9) (zB_arr hB61 rw_13 (by decide) hq62 ar_101_210070) (fun G63 s63 hB63 => ?_)
  refine j_aload_n hx 0 dX12_init_261 rfl ?_
  refine j_sipush hx dX12_init_262 rfl ?_
  refine j_newA hx (zB_K hB63) (atype := .int) (ty := .int) (kd := 2) (t := 102) (N := 3001) rfl ka_int rfl (fun _ _ h => h) (a := (3001, .inl (fun _ => zI 0))) (fun _ => rfl) (fun _ => rfl) rfl (by decide) (by decide) ⟨Nat.le_of_ble_eq_true rfl, Nat.le_of_ble_eq_true rfl⟩ dX12_init_265 (fun q64 hq64 => ?_)
  refine p33_49 hx (zGK_push (zB_K hB63) hq64 ar_102_3001) (gT_put hq64 (zB_a hB63) (by decide)) kf_RX12_112 rfl rfl dX12_init_267 ?_
  refine j_ren (P := fun G9 s9 => zB G s0 a 13 [(49, 102, 0), (48, 101, 0), (47, 100, 0), (46, 99, 0), (45, 98, 0), (42, 95, 0), (40, 97, 0), (39, 96, 0), (37, 94, 0), (36, 93, 0), (35, 92, 0), (34, 91, 0), (33, 90, 0), (32, 89, 0), (31, 88, 0), (30, 87, 0), (29, 86, 0), (28, 85, 0), (27, 84, 0), (20, 83, 0), (19, 82, 0), (18, 81, 0), (17, 80, 0), (16, 79, 0), (15, 78, 0), (14, 77, 0), (13, 76, 0), (12, 75, 0), (11, 74, 0), (10, 73, 0), (9, 72, 0), (8, 0, (-1)), (1, 71, 0)] G9 s9) (zB_arr hB63 rw_13 (by decide) hq64 ar_102_3001) (fun G65 s65 hB65 => ?_)
  refine j_aload_n hx 0 dX12_init_270 rfl ?_
  refine j_sipush hx dX12_init_271 rfl ?_
  refine j_newA hx (zB_K hB65) (atype := .int) (ty := .int) (kd := 2) (t := 103) (N := 8192) rfl ka_int rfl (fun _ _ h => h) (a := (8192, .inl (fun _ => zI 0))) (fun _ => rfl) (fun _ => rfl) rfl (by decide) (by decide) ⟨Nat.le_of_ble_eq_true rfl, Nat.le_of_ble_eq_true rfl⟩ dX12_init_274 (fun q66 hq66 => ?_)
  refine p33_50 hx (zGK_push (zB_K hB65) hq66 ar_103_8192) (gT_put hq66 (zB_a hB65) (by decide)) kf_RX12_115 rfl rfl dX12_init_276 ?_
  refine j_ren (P := fun G9 s9 => zB G s0 a 13 [(50, 103, 0), (49, 102, 0), (48, 101, 0), (47, 100, 0), (46, 99, 0), (45, 98, 0), (42, 95, 0), (40, 97, 0), (39, 96, 0), (37, 94, 0), (36, 93, 0), (35, 92, 0), (34, 91, 0), (33, 90, 0), (32, 89, 0), (31, 88, 0), (30, 87, 0), (29, 86, 0), (28, 85, 0), (27, 84, 0), (20, 83, 0), (19, 82, 0), (18, 81, 0), (17, 80, 0), (16, 79, 0), (15, 78, 0), (14, 77, 0), (13, 76, 0), (12, 75, 0), (11, 74, 0), (10, 73, 0), (9, 72, 0), (8, 0, (-1)), (1, 71, 0)] G9 s9) (zB_arr hB65 rw_13 (by decide) hq66 ar_103_8192) (fun G67 s67 hB67 => ?_)
  refine j_aload_n hx 0 dX12_init_279 rfl ?_
  refine j_sipush hx dX12_init_280 rfl ?_
  refine j_newA hx (zB_K hB67) (atype := .int) (ty := .int) (kd := 2) (t := 104) (N := 6695) rfl ka_int rfl (fun _ _ h => h) (a := (6695, .inl (fun _ => zI 0))) (fun _ => rfl) (fun _ => rfl) rfl (by decide) (by decide) ⟨Nat.le_of_ble_eq_true rfl, Nat.le_of_ble_eq_true rfl⟩ dX12_init_283 (fun q68 hq68 => ?_)
  refine p33_55 hx (zGK_push (zB_K hB67) hq68 ar_104_6695) (gT_put hq68 (zB_a hB67) (by decide)) kf_RX12_118 rfl rfl dX12_init_285 ?_
  refine j_ren (P := fun G9 s9 => zB G s0 a 13 [(55, 104, 0), (50, 103, 0), (49, 102, 0), (48, 101, 0), (47, 100, 0), (46, 99, 0), (45, 98, 0), (42, 95, 0), (40, 97, 0), (39, 96, 0), (37, 94, 0), (36, 93, 0), (35, 92, 0), (34, 91, 0), (33, 90, 0), (32, 89, 0), (31, 88, 0), (30, 87, 0), (29, 86, 0), (28, 85, 0), (27, 84, 0), (20, 83, 0), (19, 82, 0), (18, 81, 0), (17, 80, 0), (16, 79, 0), (15, 78, 0), (14, 77, 0), (13, 76, 0), (12, 75, 0), (11, 74, 0), (10, 73, 0), (9, 72, 0), (8, 0, (-1)), (1, 71, 0)] G9 s9) (zB_arr hB67 rw_13 (by decide) hq68 ar_104_6695) (fun G69 s69 hB69 => ?_)
  refine j_aload_n hx 0 dX12_init_288 rfl ?_
  refine j_bipush hx dX12_init_289 rfl ?_
  refine j_newA hx (zB_K hB69) (atype := .int) (ty := .int) (kd := 2) (t := 105) (N := 6) rfl ka_int rfl (fun _ _ h => h) (a := (6, .inl (fun _ => zI 0))) (fun _ => rfl) (fun _ => rfl) rfl (by decide) (by decide) ⟨Nat.le_of_ble_eq_true rfl, Nat.le_of_ble_eq_true rfl⟩ dX12_init_291 (fun q70 hq70 => ?_)
  refine p33_56 hx (zGK_push (zB_K hB69) hq70 ar_105_6) (gT_put hq70 (zB_a hB69) (by decide)) kf_RX12_121 rfl rfl dX12_init_293 ?_
  refine j_ren (P := fun G9 s9 => zB G s0 a 13 [(56, 105, 0), (55, 104, 0), (50, 103, 0), (49, 102, 0), (48, 101, 0), (47, 100, 0), (46, 99, 0), (45, 98, 0), (42, 95, 0), (40, 97, 0), (39, 96, 0), (37, 94, 0), (36, 93, 0), (35, 92, 0), (34, 91, 0), (33, 90, 0), (32, 89, 0), (31, 88, 0), (30, 87, 0), (29, 86, 0), (28, 85, 0), (27, 84, 0), (20, 83, 0), (19, 82, 0), (18, 81, 0), (17, 80, 0), (16, 79, 0), (15, 78, 0), (14, 77, 0), (13, 76, 0), (12, 75, 0), (11, 74, 0), (10, 73, 0), (9, 72, 0), (8, 0, (-1)), (1, 71, 0)] G9 s9) (zB_arr hB69 rw_13 (by decide) hq70 ar_105_6) (fun G71 s71 hB71 => ?_)
  refine j_aload_n hx 0 dX12_init_296 rfl ?_
  refine j_ldc hx (c := 39663) dX12_init_297 kk_RX12_124 (by decide) ?_
  refine j_newA hx (zB_K hB71) (atype := .int) (ty := .int) (kd := 2) (t := 106) (N := 39663) rfl ka_int rfl (fun _ _ h => h) (a := (39663, .inl (fun _ => zI 0))) (fun _ => rfl) (fun _ => rfl) rfl (by decide) (by decide) ⟨Nat.le_of_ble_eq_true rfl, Nat.le_of_ble_eq_true rfl⟩ dX12_init_299 (fun q72 hq72 => ?_)
  refine p33_57 hx (zGK_push (zB_K hB71) hq72 ar_106_39663) (gT_put hq72 (zB_a hB71) (by decide)) kf_RX12_125 rfl rfl dX12_init_301 ?_
  refine j_ren (P := fun G9 s9 => zB G s0 a 13 [(57, 106, 0), (56, 105, 0), (55, 104, 0), (50, 103, 0), (49, 102, 0), (48, 101, 0), (47, 100, 0), (46, 99, 0), (45, 98, 0), (42, 95, 0), (40, 97, 0), (39, 96, 0), (37, 94, 0), (36, 93, 0), (35, 92, 0), (34, 91, 0), (33, 90, 0), (32, 89, 0), (31, 88, 0), (30, 87, 0), (29, 86, 0), (28, 85, 0), (27, 84, 0), (20, 83, 0), (19, 82, 0), (18, 81, 0), (17, 80, 0), (16, 79, 0), (15, 78, 0), (14, 77, 0), (13, 76, 0), (12, 75, 0), (11, 74, 0), (10, 73, 0), (9, 72, 0), (8, 0, (-1)), (1, 71, 0)] G9 s9) (zB_arr hB71 rw_13 (by decide) hq72 ar_106_39663) (fun G73 s73 hB73 => ?_)
  refine j_aload_n hx 0 dX12_init_304 rfl ?_
  refine j_pub hB73 (by decide +kernel) cl_13 ?_
  refine j_ren (P := fun G9 s9 => zOK G9 s9 ∧ gT G9 a = 13 ∧ zYa a G s0 G9 s9 ∧ (∀ b, b ≠ a → gT G b = 0 → gT G9 b ≠ 0 → zCl (gT G9 b) ∨ ∃ d ∈ zDL, d.2.1 = gT G9 b ∧ gP G9 a d.1 = b)) ⟨zPub_OK hB73 (by decide +kernel) cl_13, pT_eq, zPub_Y hB73, zPub_u hB73⟩ (fun G1 s1 hM => ?_)
  obtain ⟨⟨hG1, hS1, h11⟩, hm1, hY1, hU1⟩ := hM
  refine j_callV hx hG1 (c_X12_clears hst a) lk_RX12_128 hm1 (by decide) rfl rfl rfl rfl [] ⟨rfl, hG1, hS1, hm1⟩ rfl rfl ⟨Nat.le_of_ble_eq_true rfl, Nat.le_of_ble_eq_true rfl⟩ ⟨Nat.le_of_ble_eq_true rfl, Nat.le_of_ble_eq_true rfl⟩ (k2 := 36) (n2 := 283444) rfl rfl (Nat.le_of_ble_eq_true rfl) dX12_init_305 (kVM (fun s2 hS2 hF2 q2 => ?_))
  refine j_aload_n hx 0 dX12_init_308 rfl ?_
  refine j_callV hx hG1 (c_X12_sets hst a) lk_RX12_131 hm1 (by decide) rfl rfl rfl rfl [] ⟨rfl, hG1, hS2, hm1, by omega, zQn_0 (by omega)⟩ rfl rfl ⟨Nat.le_of_ble_eq_true rfl, Nat.le_of_ble_eq_true rfl⟩ ⟨Nat.le_of_ble_eq_true rfl, Nat.le_of_ble_eq_true rfl⟩ (k2 := 36) (n2 := 283444) rfl rfl (Nat.le_of_ble_eq_true rfl) dX12_init_309 (kVM (fun s3 hS3 hF3 q3 => ?_))
  have hE := zModelEnd hG1 hS3 h11 hm1 hY1 hC0 hF2 hF3 q3
  exact j_vret hx hq rfl (by decide) (by decide) dX12_init_312 ⟨rfl, hG1, hS3, hE.1, hm1, hE.2⟩

