set_option maxHeartbeats 4000000 in
set_option maxRecDepth 20000 in
theorem c_X6_takeLast {E : zE} {l : Launch} (hst : l.stackTraces = false) (a : Nat) : Con E l yX6_takeLast cX6_takeLast 1 (some .int) { frames := 0, cells := 0, slots := 0, locals := 0 } (fun G s vs => vs = [.ref a] ∧ zGK G ∧ zSK G s ∧ (gT G a = 7)) (fun G s _ => pI (fun r G2 s2 => G2 = G ∧ zSK G s2 ∧ zFr [7] G s s2 ∧ ((-2147483648) ≤ r ∧ r ≤ 2147483647))) := by
  refine Con.mk hst (by decide) (fun G s vs h => by rw [h.1]; exact Nat.le_of_ble_eq_true rfl) ?_
  rintro X G s0 vs ⟨rfl, hG, hS0, ha⟩ rfl hx hq
  show JJ X E 1 G s0 0 0 [(0, .ref a)] 0 []
  refine j_aload_n hx 0 dX6_takeLast_0 rfl ?_
  have f1 := zf hS0 ha (k := 1) rfl
  refine g7_1 hx hG ha kf_RX6_15 rfl dX6_takeLast_1 ?_
  refine j_if_le hx 19 dX6_takeLast_4 rfl (by omega) (fun h2 => ?_) (fun h2 => ?_)
  · skip
    refine j_iconst hx dX6_takeLast_19 ?_
    exact j_iret hx hq rfl (by decide) (by decide) dX6_takeLast_20 ⟨(-1), rfl, rfl, hS0, zFr_rf, (by omega)⟩
  · skip
    refine j_aload_n hx 0 dX6_takeLast_7 rfl ?_
    refine g7_1 hx hG ha kf_RX6_15 rfl dX6_takeLast_8 ?_
    refine j_aload_n hx 0 dX6_takeLast_11 rfl ?_
    refine g7_0 hx hG ha kf_RX6_9 dX6_takeLast_12 ?_
    refine j_alen hx hG (zr (k := 0) (t2 := 41) hG ha rfl) (by decide) (by decide) (zlen hG (zr (k := 0) (t2 := 41) hG ha rfl) (n := 60) rfl rfl) dX6_takeLast_15 ?_
    refine j_icmp_le hx 21 dX6_takeLast_16 rfl (by omega) ⟨by decide, by decide⟩ (fun h3 => ?_) (fun h3 => absurd h3 (by omega))
    refine j_aload_n hx 0 dX6_takeLast_21 rfl ?_
    refine j_dup hx dX6_takeLast_22 rfl ?_
    refine g7_1 hx hG ha kf_RX6_15 rfl dX6_takeLast_23 ?_
    refine j_iconst hx dX6_takeLast_26 ?_
    refine j_isub hx (r := (s0 a 1) - 1) dX6_takeLast_27 (by omega) ?_
    refine p7_1 hx hG ha kf_RX6_15 dX6_takeLast_28 ?_
    obtain ⟨s1, e_s1⟩ : ∃ z, z = zU s0 a 1 ((s0 a 1) - 1) := ⟨_, rfl⟩
    rw [← e_s1]
    have hS_s1 : zSK G s1 := by rw [e_s1]; exact zSK_F hS0 ha rfl rfl rfl (by omega)
    refine j_aload_n hx 0 dX6_takeLast_31 rfl ?_
    refine g7_0 hx hG ha kf_RX6_9 dX6_takeLast_32 ?_
    refine j_aload_n hx 0 dX6_takeLast_35 rfl ?_
    refine g7_1 hx hG ha kf_RX6_15 (v := (s0 a 1) - 1) (by rw [e_s1, zU_eq]) dX6_takeLast_36 ?_
    have f4 := zaI (j := ((s0 a 1) - 1).toNat) hS0 (zr (k := 0) (t2 := 41) hG ha rfl) rfl (zlen hG (zr (k := 0) (t2 := 41) hG ha rfl) (n := 60) rfl rfl) (show 0 ≤ (s0 a 1) - 1 by omega) (by omega) rfl
    refine j_iald hx hG (zr (k := 0) (t2 := 41) hG ha rfl) (by decide) rfl (zlen hG (zr (k := 0) (t2 := 41) hG ha rfl) (n := 60) rfl rfl) (by omega) (by omega) (j := ((s0 a 1) - 1).toNat) rfl (v := (s0 (gP G a 0) ((s0 a 1) - 1).toNat)) (by rw [e_s1, zU_at (Or.inl (zne ha (zr (k := 0) (t2 := 41) hG ha rfl) (by decide)))]) dX6_takeLast_39 ?_
    exact j_iret hx hq rfl (by decide) (by decide) dX6_takeLast_40 ⟨(s0 (gP G a 0) ((s0 a 1) - 1).toNat), rfl, rfl, hS_s1, (zFr_u zFr_rf e_s1 ha (by decide)), (by omega)⟩

theorem lk_RX3_202 : LkV RX3 202 RX6 yX6_takeLast cX6_takeLast 1 (some .int) 0 := ⟨km_RX3_202, ki_yX6_takeLast, ks_RX6_yX6_takeLast, kn_RX6, kc_yX6_takeLast, rfl, by decide +kernel, by decide +kernel, by decide +kernel⟩
theorem lk_RX3_205 : LkV RX3 205 RX6 yX6_put cX6_put 2 none 1 := ⟨km_RX3_205, ki_yX6_put, ks_RX6_yX6_put, kn_RX6, kc_yX6_put, rfl, by decide +kernel, by decide +kernel, by decide +kernel⟩
theorem lk_RX3_199 : LkV RX3 199 RX6 yX6_takeFirst cX6_takeFirst 3 (some .int) 0 := ⟨km_RX3_199, ki_yX6_takeFirst, ks_RX6_yX6_takeFirst, kn_RX6, kc_yX6_takeFirst, rfl, by decide +kernel, by decide +kernel, by decide +kernel⟩
theorem lk_RX3_139 : LkV RX3 139 RX0 yX0_following cX0_following 2 (some .int) 1 := ⟨km_RX3_139, ki_yX0_following, ks_RX0_yX0_following, kn_RX0, kc_yX0_following, rfl, by decide +kernel, by decide +kernel, by decide +kernel⟩
theorem lk_RX3_195 : LkV RX3 195 RX6 yX6_takeAll cX6_takeAll 3 none 1 := ⟨km_RX3_195, ki_yX6_takeAll, ks_RX6_yX6_takeAll, kn_RX6, kc_yX6_takeAll, rfl, by decide +kernel, by decide +kernel, by decide +kernel⟩
set_option maxHeartbeats 4000000 in
set_option maxRecDepth 20000 in
theorem c_X3_payForFalse {E : zE} {l : Launch} (hst : l.stackTraces = false) (a : Nat) (x1 : Int) : Con E l yX3_payForFalse cX3_payForFalse 5 none { frames := 3, cells := 0, slots := 0, locals := 66 } (fun G s vs => vs = [.ref a, .int (zI x1)] ∧ zGK G ∧ zSK G s ∧ (gT G a = 4) ∧ ((-2147483648) ≤ x1 ∧ x1 ≤ 2147483647)) (fun G s _ => pV (fun G2 s2 => G2 = G ∧ zSK G s2 ∧ zFr [7, 41] G s s2 ∧ True)) := by
  refine Con.mk hst (by decide) (fun G s vs h => by rw [h.1]; exact Nat.le_of_ble_eq_true rfl) ?_
  rintro X G s0 vs ⟨rfl, hG, hS0, ha, hx1⟩ rfl hx hq
  show JJ X E 5 G s0 0 0 [(0, .ref a), (1, .int (zI x1))] 0 []
  refine j_aload_n hx 0 dX3_payForFalse_0 rfl ?_
  refine g4_1 hx hG ha kf_RX3_14 dX3_payForFalse_1 ?_
  refine j_iload_n hx 1 dX3_payForFalse_4 rfl ?_
  refine j_callV hx hG (c_X0_rowOf hst (gP G a 1) x1) lk_RX3_87 (zr (k := 1) (t2 := 1) hG ha rfl) (by decide) rfl rfl rfl rfl [.int (zI x1)] ⟨rfl, hG, hS0, (zr (k := 1) (t2 := 1) hG ha rfl), (by omega)⟩ rfl rfl ⟨by decide, by decide⟩ ⟨by decide, by decide⟩ (k2 := 0) (n2 := 0) rfl rfl (Nat.le_of_ble_eq_true rfl) dX3_payForFalse_5 (kRP (fun r1 q2 => ?_))
  refine j_astore_n hx [(2, .ref r1), (0, .ref a), (1, .int (zI x1))] dX3_payForFalse_8 (by decide) rfl ?_
  refine j_aload_n hx 1 dX3_payForFalse_9 rfl ?_
  refine g4_1 hx hG ha kf_RX3_14 dX3_payForFalse_10 ?_
  refine j_iload_n hx 2 dX3_payForFalse_13 rfl ?_
  refine j_callV hx hG (c_X0_heapOf hst (gP G a 1) x1) lk_RX3_107 (zr (k := 1) (t2 := 1) hG ha rfl) (by decide) rfl rfl rfl rfl [.int (zI x1)] ⟨rfl, hG, hS0, (zr (k := 1) (t2 := 1) hG ha rfl), (by omega)⟩ rfl rfl ⟨by decide, by decide⟩ ⟨by decide, by decide⟩ (k2 := 0) (n2 := 0) rfl rfl (Nat.le_of_ble_eq_true rfl) dX3_payForFalse_14 (kRP (fun r3 q4 => ?_))
  refine j_astore_n hx [(3, .ref r3), (2, .ref r1), (0, .ref a), (1, .int (zI x1))] dX3_payForFalse_17 (by decide) rfl ?_
  refine j_aload_n hx 2 dX3_payForFalse_18 rfl ?_
  refine j_iconst hx dX3_payForFalse_19 ?_
  refine j_callV hx hG (c_X3_lawOf hst a 0) lk_RX3_173 ha (by decide) rfl rfl rfl rfl [.int (zI 0)] ⟨rfl, hG, hS0, ha, (by omega)⟩ rfl rfl ⟨by decide, by decide⟩ ⟨by decide, by decide⟩ (k2 := 0) (n2 := 0) rfl rfl (Nat.le_of_ble_eq_true rfl) dX3_payForFalse_20 (kIP (fun v5 q6 => ?_))
  refine j_if_ne hx 58 dX3_payForFalse_23 rfl (by omega) (fun h7 => ?_) (fun h7 => ?_)
  · skip
    refine j_aload_n hx 2 dX3_payForFalse_58 rfl ?_
    refine j_iconst hx dX3_payForFalse_59 ?_
    refine j_callV hx hG (c_X3_lawOf hst a 0) lk_RX3_173 ha (by decide) rfl rfl rfl rfl [.int (zI 0)] ⟨rfl, hG, hS0, ha, (by omega)⟩ rfl rfl ⟨by decide, by decide⟩ ⟨by decide, by decide⟩ (k2 := 0) (n2 := 0) rfl rfl (Nat.le_of_ble_eq_true rfl) dX3_payForFalse_60 (kIP (fun v8 q9 => ?_))
    refine j_iconst hx dX3_payForFalse_63 ?_
    refine j_icmp_ne hx 107 dX3_payForFalse_64 rfl (by omega) ⟨by decide, by decide⟩ (fun h10 => ?_) (fun h10 => ?_)
    · skip
      exact j_vret hx hq rfl (by decide) (by decide) dX3_payForFalse_107 ⟨rfl, rfl, hS0, zFr_rf, trivial⟩
    · skip
      refine j_aload_n hx 1 dX3_payForFalse_67 rfl ?_
      have f11 := zf hS0 q2 (k := 1) rfl
      refine gN7_1 hx hG q2 kf_RX3_116 rfl dX3_payForFalse_68 ?_
      refine j_aload_n hx 0 dX3_payForFalse_71 rfl ?_
      have f12 := zf hS0 q4 (k := 1) rfl
      refine gN7_1 hx hG q4 kf_RX3_116 rfl dX3_payForFalse_72 ?_
      refine j_iadd hx (r := (s0 r1 1) + (s0 r3 1)) dX3_payForFalse_75 (by omega) ?_
      refine j_if_le hx 107 dX3_payForFalse_76 rfl (by omega) (fun h13 => ?_) (fun h13 => ?_)
      · skip
        exact j_vret hx hq rfl (by decide) (by decide) dX3_payForFalse_107 ⟨rfl, rfl, hS0, zFr_rf, trivial⟩
      · skip
        refine j_aload_n hx 2 dX3_payForFalse_79 rfl ?_
        refine g4_1 hx hG ha kf_RX3_14 dX3_payForFalse_80 ?_
        refine gN1_6 hx hG (zr (k := 1) (t2 := 1) hG ha rfl) kf_RX3_119 dX3_payForFalse_83 ?_
        refine j_aload_n hx 1 dX3_payForFalse_86 rfl ?_
        refine gN7_1 hx hG q2 kf_RX3_116 rfl dX3_payForFalse_87 ?_
        refine j_if_le hx 100 dX3_payForFalse_90 rfl (by omega) (fun h14 => ?_) (fun h14 => ?_)
        · skip
          refine j_aload_n hx 0 dX3_payForFalse_100 rfl ?_
          refine j_callV hx hG (c_X6_takeLast hst r3) lk_RX3_202 q4 (by decide) rfl rfl rfl rfl [] ⟨rfl, hG, hS0, q4⟩ rfl rfl ⟨by decide, by decide⟩ ⟨by decide, by decide⟩ (k2 := 0) (n2 := 0) rfl rfl (Nat.le_of_ble_eq_true rfl) dX3_payForFalse_101 (kIM (fun v15 s1 hS_s1 hF_s1 q16 => ?_))
          refine j_callV hx hG (c_X6_put hst (gP G (gP G a 1) 6) v15) lk_RX3_205 (zr (k := 6) (t2 := 7) hG (zr (k := 1) (t2 := 1) hG ha rfl) rfl) (by decide) rfl rfl rfl rfl [.int (zI v15)] ⟨rfl, hG, hS_s1, (zr (k := 6) (t2 := 7) hG (zr (k := 1) (t2 := 1) hG ha rfl) rfl), (by omega)⟩ rfl rfl ⟨by decide, by decide⟩ ⟨by decide, by decide⟩ (k2 := 0) (n2 := 0) rfl rfl (Nat.le_of_ble_eq_true rfl) dX3_payForFalse_104 (kVM (fun s2 hS_s2 hF_s2 q18 => ?_))
          exact j_vret hx hq rfl (by decide) (by decide) dX3_payForFalse_107 ⟨rfl, rfl, hS_s2, (zFr_t (zFr_t zFr_rf hF_s1 (by decide)) hF_s2 (by decide)), trivial⟩
        · skip
          refine j_aload_n hx 1 dX3_payForFalse_93 rfl ?_
          refine j_callV hx hG (c_X6_takeFirst hst r1) lk_RX3_199 q2 (by decide) rfl rfl rfl rfl [] ⟨rfl, hG, hS0, q2⟩ rfl rfl ⟨by decide, by decide⟩ ⟨by decide, by decide⟩ (k2 := 0) (n2 := 0) rfl rfl (Nat.le_of_ble_eq_true rfl) dX3_payForFalse_94 (kIM (fun v19 s3 hS_s3 hF_s3 q20 => ?_))
          refine j_goto hx 104 dX3_payForFalse_97 rfl ?_
          refine j_callV hx hG (c_X6_put hst (gP G (gP G a 1) 6) v19) lk_RX3_205 (zr (k := 6) (t2 := 7) hG (zr (k := 1) (t2 := 1) hG ha rfl) rfl) (by decide) rfl rfl rfl rfl [.int (zI v19)] ⟨rfl, hG, hS_s3, (zr (k := 6) (t2 := 7) hG (zr (k := 1) (t2 := 1) hG ha rfl) rfl), (by omega)⟩ rfl rfl ⟨by decide, by decide⟩ ⟨by decide, by decide⟩ (k2 := 0) (n2 := 0) rfl rfl (Nat.le_of_ble_eq_true rfl) dX3_payForFalse_104 (kVM (fun s4 hS_s4 hF_s4 q22 => ?_))
          exact j_vret hx hq rfl (by decide) (by decide) dX3_payForFalse_107 ⟨rfl, rfl, hS_s4, (zFr_t (zFr_t zFr_rf hF_s3 (by decide)) hF_s4 (by decide)), trivial⟩
  · skip
    refine j_aload_n hx 2 dX3_payForFalse_26 rfl ?_
    refine g4_1 hx hG ha kf_RX3_14 dX3_payForFalse_27 ?_
    refine j_iload_n hx 3 dX3_payForFalse_30 rfl ?_
    refine j_callV hx hG (c_X0_following hst (gP G a 1) x1) lk_RX3_139 (zr (k := 1) (t2 := 1) hG ha rfl) (by decide) rfl rfl rfl rfl [.int (zI x1)] ⟨rfl, hG, hS0, (zr (k := 1) (t2 := 1) hG ha rfl), (by omega)⟩ rfl rfl ⟨by decide, by decide⟩ ⟨by decide, by decide⟩ (k2 := 0) (n2 := 0) rfl rfl (Nat.le_of_ble_eq_true rfl) dX3_payForFalse_31 (kIP (fun v23 q24 => ?_))
    refine j_istore hx [(4, .int (zI v23)), (3, .ref r3), (2, .ref r1), (0, .ref a), (1, .int (zI x1))] dX3_payForFalse_34 (by decide) rfl ?_
    refine j_iload hx 0 dX3_payForFalse_36 rfl ?_
    refine j_iconst hx dX3_payForFalse_38 ?_
    refine j_icmp_eq hx 55 dX3_payForFalse_39 rfl (by omega) ⟨by decide, by decide⟩ (fun h25 => ?_) (fun h25 => ?_)
    · skip
      refine j_goto hx 107 dX3_payForFalse_55 rfl ?_
      exact j_vret hx hq rfl (by decide) (by decide) dX3_payForFalse_107 ⟨rfl, rfl, hS0, zFr_rf, trivial⟩
    · skip
      refine j_aload_n hx 3 dX3_payForFalse_42 rfl ?_
      refine g4_1 hx hG ha kf_RX3_14 dX3_payForFalse_43 ?_
      refine j_iload hx 0 dX3_payForFalse_46 rfl ?_
      refine j_callV hx hG (c_X0_rowOf hst (gP G a 1) v23) lk_RX3_87 (zr (k := 1) (t2 := 1) hG ha rfl) (by decide) rfl rfl rfl rfl [.int (zI v23)] ⟨rfl, hG, hS0, (zr (k := 1) (t2 := 1) hG ha rfl), (by omega)⟩ rfl rfl ⟨by decide, by decide⟩ ⟨by decide, by decide⟩ (k2 := 0) (n2 := 0) rfl rfl (Nat.le_of_ble_eq_true rfl) dX3_payForFalse_48 (kRP (fun r26 q27 => ?_))
      refine j_aload_n hx 1 dX3_payForFalse_51 rfl ?_
      refine j_callV hx hG (c_X6_takeAll hst r26 r3) lk_RX3_195 q27 (by decide) rfl rfl rfl rfl [.ref r3] ⟨rfl, hG, hS0, q27, q4⟩ rfl rfl ⟨by decide, by decide⟩ ⟨by decide, by decide⟩ (k2 := 0) (n2 := 0) rfl rfl (Nat.le_of_ble_eq_true rfl) dX3_payForFalse_52 (kVM (fun s5 hS_s5 hF_s5 q29 => ?_))
      refine j_goto hx 107 dX3_payForFalse_55 rfl ?_
      exact j_vret hx hq rfl (by decide) (by decide) dX3_payForFalse_107 ⟨rfl, rfl, hS_s5, (zFr_t zFr_rf hF_s5 (by decide)), trivial⟩

set_option maxHeartbeats 4000000 in
set_option maxRecDepth 20000 in
theorem c_X3_setLast {E : zE} {l : Launch} (hst : l.stackTraces = false) (a : Nat) (x1 : Int) (x2 : Int) : Con E l yX3_setLast cX3_setLast 3 none { frames := 0, cells := 0, slots := 0, locals := 0 } (fun G s vs => vs = [.ref a, .int (zI x1), .int (zI x2)] ∧ zGK G ∧ zSK G s ∧ (gT G a = 4) ∧ ((-2147483648) ≤ x1 ∧ x1 ≤ 2147483647) ∧ ((-2147483648) ≤ x2 ∧ x2 ≤ 2147483647)) (fun G s _ => pV (fun G2 s2 => G2 = G ∧ zSK G s2 ∧ zFr [51] G s s2 ∧ True)) := by
  refine Con.mk hst (by decide) (fun G s vs h => by rw [h.1]; exact Nat.le_of_ble_eq_true rfl) ?_
  rintro X G s0 vs ⟨rfl, hG, hS0, ha, hx1, hx2⟩ rfl hx hq
  show JJ X E 3 G s0 0 0 [(0, .ref a), (1, .int (zI x1)), (2, .int (zI x2))] 0 []
  refine j_iload_n hx 1 dX3_setLast_0 rfl ?_
  refine j_if_lt hx 20 dX3_setLast_1 rfl (by omega) (fun h1 => ?_) (fun h1 => ?_)
  · skip
    exact j_vret hx hq rfl (by decide) (by decide) dX3_setLast_20 ⟨rfl, rfl, hS0, zFr_rf, trivial⟩
  · skip
    refine j_iload_n hx 1 dX3_setLast_4 rfl ?_
    refine j_aload_n hx 0 dX3_setLast_5 rfl ?_
    refine g4_5 hx hG ha kf_RX3_31 dX3_setLast_6 ?_
    refine j_alen hx hG (zr (k := 5) (t2 := 51) hG ha rfl) (by decide) (by decide) (zlen hG (zr (k := 5) (t2 := 51) hG ha rfl) (n := 5) rfl rfl) dX3_setLast_9 ?_
    refine j_icmp_ge hx 20 dX3_setLast_10 rfl (by omega) ⟨by decide, by decide⟩ (fun h2 => ?_) (fun h2 => ?_)
    · skip
      exact j_vret hx hq rfl (by decide) (by decide) dX3_setLast_20 ⟨rfl, rfl, hS0, zFr_rf, trivial⟩
    · skip
      refine j_aload_n hx 0 dX3_setLast_13 rfl ?_
      refine g4_5 hx hG ha kf_RX3_31 dX3_setLast_14 ?_
      refine j_iload_n hx 1 dX3_setLast_17 rfl ?_
      refine j_iload_n hx 2 dX3_setLast_18 rfl ?_
      refine j_iast hx hG (zr (k := 5) (t2 := 51) hG ha rfl) (by decide) rfl (zlen hG (zr (k := 5) (t2 := 51) hG ha rfl) (n := 5) rfl rfl) (by omega) (by omega) (j := (x1).toNat) rfl dX3_setLast_19 ?_
      obtain ⟨s1, e_s1⟩ : ∃ z, z = zU s0 (gP G a 5) (x1).toNat x2 := ⟨_, rfl⟩
      rw [← e_s1]
      have hS_s1 : zSK G s1 := by rw [e_s1]; exact zSK_A hS0 (zr (k := 5) (t2 := 51) hG ha rfl) rfl rfl rfl (by omega)
      exact j_vret hx hq rfl (by decide) (by decide) dX3_setLast_20 ⟨rfl, rfl, hS_s1, (zFr_u zFr_rf e_s1 (zr (k := 5) (t2 := 51) hG ha rfl) (by decide)), trivial⟩

theorem lk_RX3_189 : LkV RX3 189 RX3 yX3_setLast cX3_setLast 3 none 2 := ⟨km_RX3_189, ki_yX3_setLast, ks_RX3_yX3_setLast, kn_RX3, kc_yX3_setLast, rfl, by decide +kernel, by decide +kernel, by decide +kernel⟩
theorem lk_RX3_186 : LkV RX3 186 RX3 yX3_payForFalse cX3_payForFalse 5 none 1 := ⟨km_RX3_186, ki_yX3_payForFalse, ks_RX3_yX3_payForFalse, kn_RX3, kc_yX3_payForFalse, rfl, by decide +kernel, by decide +kernel, by decide +kernel⟩
theorem lk_RX3_179 : LkV RX3 179 RX0 yX0_win cX0_win 7 (some .int) 3 := ⟨km_RX3_179, ki_yX0_win, ks_RX0_yX0_win, kn_RX0, kc_yX0_win, rfl, by decide +kernel, by decide +kernel, by decide +kernel⟩
theorem lk_RX3_183 : LkV RX3 183 RX3 yX3_kindOfWin cX3_kindOfWin 4 (some .int) 3 := ⟨km_RX3_183, ki_yX3_kindOfWin, ks_RX3_yX3_kindOfWin, kn_RX3, kc_yX3_kindOfWin, rfl, by decide +kernel, by decide +kernel, by decide +kernel⟩
theorem lk_RX3_176 : LkV RX3 176 RX3 yX3_fallTogether cX3_fallTogether 3 none 1 := ⟨km_RX3_176, ki_yX3_fallTogether, ks_RX3_yX3_fallTogether, kn_RX3, kc_yX3_fallTogether, rfl, by decide +kernel, by decide +kernel, by decide +kernel⟩
set_option maxHeartbeats 4000000 in
set_option maxRecDepth 20000 in
theorem c_X3_judge {E : zE} {l : Launch} (hst : l.stackTraces = false) (a : Nat) (x1 : Int) : Con E l yX3_judge cX3_judge 8 none { frames := 4, cells := 0, slots := 0, locals := 90 } (fun G s vs => vs = [.ref a, .int (zI x1)] ∧ zGK G ∧ zSK G s ∧ (gT G a = 4) ∧ ((-2147483648) ≤ x1 ∧ x1 ≤ 2147483647)) (fun G s _ => pV (fun G2 s2 => G2 = G ∧ zSK G s2 ∧ zFr [4, 7, 41, 50, 51] G s s2 ∧ True)) := by
  refine Con.mk hst (by decide) (fun G s vs h => by rw [h.1]; exact Nat.le_of_ble_eq_true rfl) ?_
  rintro X G s0 vs ⟨rfl, hG, hS0, ha, hx1⟩ rfl hx hq
  show JJ X E 8 G s0 0 0 [(0, .ref a), (1, .int (zI x1))] 0 []
  refine j_bipush hx dX3_judge_0 rfl ?_
  refine j_istore_n hx [(2, .int (zI 99)), (0, .ref a), (1, .int (zI x1))] dX3_judge_2 (by decide) rfl ?_
  refine j_iconst hx dX3_judge_3 ?_
  refine j_istore_n hx [(3, .int (zI 0)), (2, .int (zI 99)), (0, .ref a), (1, .int (zI x1))] dX3_judge_4 (by decide) rfl ?_
  refine j_iconst hx dX3_judge_5 ?_
  refine j_istore hx [(4, .int (zI 0)), (3, .int (zI 0)), (2, .int (zI 99)), (0, .ref a), (1, .int (zI x1))] dX3_judge_6 (by decide) rfl ?_
  refine j_iconst hx dX3_judge_8 ?_
  refine j_istore hx [(5, .int (zI (-1))), (4, .int (zI 0)), (3, .int (zI 0)), (2, .int (zI 99)), (0, .ref a), (1, .int (zI x1))] dX3_judge_9 (by decide) rfl ?_
  refine j_iconst hx dX3_judge_11 ?_
  refine j_istore hx [(6, .int (zI 0)), (5, .int (zI (-1))), (4, .int (zI 0)), (3, .int (zI 0)), (2, .int (zI 99)), (0, .ref a), (1, .int (zI x1))] dX3_judge_12 (by decide) rfl ?_
  have c14_1 : ∀ (m_c14_1 : Nat) (v1 : Int) (v2 : Int) (v3 : Int) (v4 : Int) (v5 : Int), 2147483648 - v5 < m_c14_1 → ((-2147483648) ≤ v1 ∧ v1 ≤ 99) → ((-2147483648) ≤ v2 ∧ v2 ≤ 2147483647) → ((-2147483648) ≤ v3 ∧ v3 ≤ 2147483647) → ((-1) ≤ v4 ∧ v4 ≤ 2) → (0 ≤ v5 ∧ v5 ≤ 3) → JJ X E 8 G s0 0 0 [(0, .ref a), (1, .int (zI x1)), (2, .int (zI v1)), (3, .int (zI v2)), (4, .int (zI v3)), (5, .int (zI v4)), (6, .int (zI v5))] 14 [] := by
    intro m_c14_1
    induction m_c14_1 with
    | zero => intro v1 v2 v3 v4 v5 hm_c14_1 fA2 fA3 fA4 fA5 fA6; exfalso; omega
    | succ m_c14_1 ih_c14_1 => 
      intro v1 v2 v3 v4 v5 hm_c14_1 fA2 fA3 fA4 fA5 fA6
      refine j_iload hx 6 dX3_judge_14 rfl ?_
      refine j_aload_n hx 0 dX3_judge_16 rfl ?_
      refine g4_0 hx hG ha kf_RX3_41 dX3_judge_17 ?_
      have f6 := zf hS0 (zr (k := 0) (t2 := 9) hG ha rfl) (k := 4) rfl
      refine gN9_4 hx hG (zr (k := 0) (t2 := 9) hG ha rfl) kf_RX3_148 rfl dX3_judge_20 ?_
      refine j_icmp_ge hx 86 dX3_judge_23 rfl (by omega) (by omega) (fun h7 => ?_) (fun h7 => ?_)
      · skip
        refine j_iload hx 5 dX3_judge_86 rfl ?_
        refine j_iconst hx dX3_judge_88 ?_
        have c113_7 : ∀ (v8 : Int) (s8 : zS), ((-1) ≤ v8 ∧ v8 ≤ 2) → (zSK G s8) → (zFr [7, 41, 50] G s0 s8) → JJ X E 8 G s8 0 0 [(0, .ref a), (1, .int (zI x1)), (2, .int (zI v1)), (4, .int (zI v3)), (5, .int (zI v8))] 113 [] := by
          intro v8 s8 fA9 hS_s8 hF_s8
          refine j_iload hx 4 dX3_judge_113 rfl ?_
          refine j_iconst hx dX3_judge_115 ?_
          have c132_12 : ∀ (v9 : Int), (0 ≤ v9 ∧ v9 ≤ 1) → JJ X E 8 G s8 0 0 [(0, .ref a), (1, .int (zI x1)), (2, .int (zI v1)), (4, .int (zI v3)), (5, .int (zI v8))] 132 [.int (zI v9)] := by
            intro v9 fA13
            refine j_istore hx [(6, .int (zI v9)), (0, .ref a), (1, .int (zI x1)), (2, .int (zI v1)), (4, .int (zI v3)), (5, .int (zI v8))] dX3_judge_132 (by decide) rfl ?_
            refine j_iconst hx dX3_judge_134 ?_
            refine j_istore hx [(7, .int (zI 0)), (6, .int (zI v9)), (0, .ref a), (1, .int (zI x1)), (2, .int (zI v1)), (4, .int (zI v3)), (5, .int (zI v8))] dX3_judge_135 (by decide) rfl ?_
            refine j_iload hx 1 dX3_judge_137 rfl ?_
            have c219_14 : ∀ (v10 : Int) (s15 : zS), ((-2147483648) ≤ v10 ∧ v10 ≤ 2147483647) → (zSK G s15) → (zFr [7, 41, 50] G s8 s15) → JJ X E 8 G s15 0 0 [(0, .ref a), (2, .int (zI v1)), (4, .int (zI v3)), (5, .int (zI v8)), (6, .int (zI v9)), (7, .int (zI v10))] 219 [] := by
              intro v10 s15 fA16 hS_s15 hF_s15
              refine j_aload_n hx 0 dX3_judge_219 rfl ?_
              refine j_iconst hx dX3_judge_220 ?_
              refine p4_7 hx hG ha kf_RX3_61 (by omega) dX3_judge_221 ?_
              obtain ⟨s19, e_s19⟩ : ∃ z, z = zU s15 a 7 1 := ⟨_, rfl⟩
              rw [← e_s19]
              have hS_s19 : zSK G s19 := by rw [e_s19]; exact zSK_F hS_s15 ha rfl rfl rfl (by omega)
              refine j_aload_n hx 0 dX3_judge_224 rfl ?_
              refine j_iconst hx dX3_judge_225 ?_
              refine j_iload hx 4 dX3_judge_226 rfl ?_
              have c237_20 : ∀ (v11 : Int), ((-1) ≤ v11 ∧ v11 ≤ 2) → JJ X E 8 G s19 0 0 [(0, .ref a), (2, .int (zI v1)), (4, .int (zI v3)), (5, .int (zI v8)), (7, .int (zI v10))] 237 [.int (zI v11), .int (zI 0), .ref a] := by
                intro v11 fA21
                refine j_callV hx hG (c_X3_setLast hst a 0 v11) lk_RX3_189 ha (by decide) rfl rfl rfl rfl [.int (zI 0), .int (zI v11)] ⟨rfl, hG, hS_s19, ha, (by omega), (by omega)⟩ rfl rfl ⟨by decide, by decide⟩ ⟨by decide, by decide⟩ (k2 := 0) (n2 := 0) rfl rfl (Nat.le_of_ble_eq_true rfl) dX3_judge_237 (kVM (fun s22 hS_s22 hF_s22 q13 => ?_))
                refine j_aload_n hx 0 dX3_judge_240 rfl ?_
                refine j_iconst hx dX3_judge_241 ?_
                refine j_iload hx 3 dX3_judge_242 rfl ?_
                refine j_callV hx hG (c_X3_setLast hst a 1 v8) lk_RX3_189 ha (by decide) rfl rfl rfl rfl [.int (zI 1), .int (zI v8)] ⟨rfl, hG, hS_s22, ha, (by omega), (by omega)⟩ rfl rfl ⟨by decide, by decide⟩ ⟨by decide, by decide⟩ (k2 := 0) (n2 := 0) rfl rfl (Nat.le_of_ble_eq_true rfl) dX3_judge_244 (kVM (fun s23 hS_s23 hF_s23 q15 => ?_))
                refine j_aload_n hx 0 dX3_judge_247 rfl ?_
                refine j_iconst hx dX3_judge_248 ?_
                refine j_iload hx 3 dX3_judge_249 rfl ?_
                refine j_iconst hx dX3_judge_251 ?_
                have c260_24 : ∀ (v16 : Int), ((-2147483648) ≤ v16 ∧ v16 ≤ 99) → JJ X E 8 G s23 0 0 [(0, .ref a), (4, .int (zI v3)), (7, .int (zI v10))] 260 [.int (zI v16), .int (zI 2), .ref a] := by
                  intro v16 fA25
                  refine j_callV hx hG (c_X3_setLast hst a 2 v16) lk_RX3_189 ha (by decide) rfl rfl rfl rfl [.int (zI 2), .int (zI v16)] ⟨rfl, hG, hS_s23, ha, (by omega), (by omega)⟩ rfl rfl ⟨by decide, by decide⟩ ⟨by decide, by decide⟩ (k2 := 0) (n2 := 0) rfl rfl (Nat.le_of_ble_eq_true rfl) dX3_judge_260 (kVM (fun s26 hS_s26 hF_s26 q18 => ?_))
                  refine j_aload_n hx 0 dX3_judge_263 rfl ?_
                  refine j_iconst hx dX3_judge_264 ?_
                  refine j_iload hx 1 dX3_judge_265 rfl ?_
                  refine j_callV hx hG (c_X3_setLast hst a 3 v3) lk_RX3_189 ha (by decide) rfl rfl rfl rfl [.int (zI 3), .int (zI v3)] ⟨rfl, hG, hS_s26, ha, (by omega), (by omega)⟩ rfl rfl ⟨by decide, by decide⟩ ⟨by decide, by decide⟩ (k2 := 0) (n2 := 0) rfl rfl (Nat.le_of_ble_eq_true rfl) dX3_judge_267 (kVM (fun s27 hS_s27 hF_s27 q20 => ?_))
                  refine j_aload_n hx 0 dX3_judge_270 rfl ?_
                  refine j_iconst hx dX3_judge_271 ?_
                  refine j_iload hx 2 dX3_judge_272 rfl ?_
                  refine j_callV hx hG (c_X3_setLast hst a 4 v10) lk_RX3_189 ha (by decide) rfl rfl rfl rfl [.int (zI 4), .int (zI v10)] ⟨rfl, hG, hS_s27, ha, (by omega), (by omega)⟩ rfl rfl ⟨by decide, by decide⟩ ⟨by decide, by decide⟩ (k2 := 0) (n2 := 0) rfl rfl (Nat.le_of_ble_eq_true rfl) dX3_judge_274 (kVM (fun s28 hS_s28 hF_s28 q22 => ?_))
                  exact j_vret hx hq rfl (by decide) (by decide) dX3_judge_277 ⟨rfl, rfl, hS_s28, (zFr_t (zFr_t (zFr_t (zFr_t (zFr_t (zFr_u (zFr_t (zFr_t zFr_rf hF_s8 (by decide)) hF_s15 (by decide)) e_s19 ha (by decide)) hF_s22 (by decide)) hF_s23 (by decide)) hF_s26 (by decide)) hF_s27 (by decide)) hF_s28 (by decide)), trivial⟩
                refine j_icmp_ne hx 259 dX3_judge_252 rfl (by omega) ⟨by decide, by decide⟩ (fun h23 => ?_) (fun h23 => ?_)
                · skip
                  refine j_iload_n hx 1 dX3_judge_259 rfl ?_
                  exact j_sub [0, 2, 4] [(0, .ref a), (4, .int (zI v3)), (7, .int (zI v10))] rfl (c260_24 v1 (by omega))
                · skip
                  refine j_iconst hx dX3_judge_255 ?_
                  refine j_goto hx 260 dX3_judge_256 rfl ?_
                  exact j_sub [0, 2, 4] [(0, .ref a), (4, .int (zI v3)), (7, .int (zI v10))] rfl (c260_24 0 (by omega))
              refine j_if_eq hx 236 dX3_judge_228 rfl (by omega) (fun h24 => ?_) (fun h24 => ?_)
              · skip
                refine j_iconst hx dX3_judge_236 ?_
                exact j_sub [0, 1, 2, 3, 5] [(0, .ref a), (2, .int (zI v1)), (4, .int (zI v3)), (5, .int (zI v8)), (7, .int (zI v10))] rfl (c237_20 (-1) (by omega))
              · skip
                refine j_iload hx 3 dX3_judge_231 rfl ?_
                refine j_goto hx 237 dX3_judge_233 rfl ?_
                exact j_sub [0, 1, 2, 3, 5] [(0, .ref a), (2, .int (zI v1)), (4, .int (zI v3)), (5, .int (zI v8)), (7, .int (zI v10))] rfl (c237_20 v8 (by omega))
            refine j_if_eq hx 195 dX3_judge_139 rfl (by omega) (fun h25 => ?_) (fun h25 => ?_)
            · skip
              refine j_iload hx 6 dX3_judge_195 rfl ?_
              refine j_iconst hx dX3_judge_197 ?_
              refine j_icmp_eq hx 219 dX3_judge_198 rfl (by omega) ⟨by decide, by decide⟩ (fun h26 => ?_) (fun h26 => ?_)
              · skip
                exact j_sub [2, 4, 5, 6, 1, 0] [(0, .ref a), (2, .int (zI v1)), (4, .int (zI v3)), (5, .int (zI v8)), (6, .int (zI v9)), (7, .int (zI 0))] rfl (c219_14 0 s8 (by omega) hS_s8 zFr_rf)
              · skip
                refine j_aload_n hx 2 dX3_judge_201 rfl ?_
                refine j_iload hx 6 dX3_judge_202 rfl ?_
                refine j_bipush hx dX3_judge_204 rfl ?_
                refine j_imul hx (r := 6 * v8) dX3_judge_206 (by omega) ?_
                refine j_iconst hx dX3_judge_207 ?_
                refine j_iadd hx (r := 6 * v8 + 3) dX3_judge_208 (by omega) ?_
                refine j_iconst hx dX3_judge_209 ?_
                refine j_callV hx hG (c_X3_addTally hst a (6 * v8 + 3) 1) lk_RX3_169 ha (by decide) rfl rfl rfl rfl [.int (zI (6 * v8 + 3)), .int (zI 1)] ⟨rfl, hG, hS_s8, ha, (by omega), (by omega)⟩ rfl rfl ⟨by decide, by decide⟩ ⟨by decide, by decide⟩ (k2 := 0) (n2 := 0) rfl rfl (Nat.le_of_ble_eq_true rfl) dX3_judge_210 (kVM (fun s29 hS_s29 hF_s29 q28 => ?_))
                refine j_aload_n hx 2 dX3_judge_213 rfl ?_
                refine j_iload hx 6 dX3_judge_214 rfl ?_
                refine j_callV hx hG (c_X3_payForFalse hst a v8) lk_RX3_186 ha (by decide) rfl rfl rfl rfl [.int (zI v8)] ⟨rfl, hG, hS_s29, ha, (by omega)⟩ rfl rfl ⟨by decide, by decide⟩ ⟨by decide, by decide⟩ (k2 := 0) (n2 := 0) rfl rfl (Nat.le_of_ble_eq_true rfl) dX3_judge_216 (kVM (fun s30 hS_s30 hF_s30 q30 => ?_))
                exact j_sub [2, 4, 5, 6, 1, 0] [(0, .ref a), (2, .int (zI v1)), (4, .int (zI v3)), (5, .int (zI v8)), (6, .int (zI v9)), (7, .int (zI 0))] rfl (c219_14 0 s30 (by omega) hS_s30 (zFr_t (zFr_t zFr_rf hF_s29 (by decide)) hF_s30 (by decide)))
            · skip
              refine j_aload_n hx 2 dX3_judge_142 rfl ?_
              refine g4_1 hx hG ha kf_RX3_14 dX3_judge_143 ?_
              refine j_iload hx 6 dX3_judge_146 rfl ?_
              refine j_aload_n hx 2 dX3_judge_148 rfl ?_
              have f31 := zf hS0 ha (k := 11) rfl
              refine g4_11 hx hG ha kf_RX3_37 (v := (s0 a 11)) (by rw [(zFr_g hF_s8 ha (by decide))]) dX3_judge_149 ?_
              refine j_aload_n hx 2 dX3_judge_152 rfl ?_
              refine j_iconst hx dX3_judge_153 ?_
              refine j_callV hx hG (c_X3_lawOf hst a 2) lk_RX3_173 ha (by decide) rfl rfl rfl rfl [.int (zI 2)] ⟨rfl, hG, hS_s8, ha, (by omega)⟩ rfl rfl ⟨by decide, by decide⟩ ⟨by decide, by decide⟩ (k2 := 0) (n2 := 0) rfl rfl (Nat.le_of_ble_eq_true rfl) dX3_judge_154 (kIP (fun v32 q33 => ?_))
              refine j_callV hx hG (c_X0_win hst (gP G a 1) v8 ((s0 a 11)) v32) lk_RX3_179 (zr (k := 1) (t2 := 1) hG ha rfl) (by decide) rfl rfl rfl rfl [.int (zI v8), .int (zI ((s0 a 11))), .int (zI v32)] ⟨rfl, hG, hS_s8, (zr (k := 1) (t2 := 1) hG ha rfl), (by omega), (by omega), (by omega)⟩ rfl rfl ⟨by decide, by decide⟩ ⟨by decide, by decide⟩ (k2 := 0) (n2 := 0) rfl rfl (Nat.le_of_ble_eq_true rfl) dX3_judge_157 (kIM (fun v34 s31 hS_s31 hF_s31 q35 => ?_))
              refine j_istore hx [(7, .int (zI v34)), (6, .int (zI v9)), (0, .ref a), (1, .int (zI x1)), (2, .int (zI v1)), (4, .int (zI v3)), (5, .int (zI v8))] dX3_judge_160 (by decide) rfl ?_
              refine j_aload_n hx 2 dX3_judge_162 rfl ?_
              refine j_iload hx 6 dX3_judge_163 rfl ?_
              refine j_bipush hx dX3_judge_165 rfl ?_
              refine j_imul hx (r := 6 * v8) dX3_judge_167 (by omega) ?_
              refine j_aload_n hx 2 dX3_judge_168 rfl ?_
              refine j_iload hx 6 dX3_judge_169 rfl ?_
              refine j_iload_n hx 4 dX3_judge_171 rfl ?_
              refine j_iload_n hx 3 dX3_judge_172 rfl ?_
              refine j_callV hx hG (c_X3_kindOfWin hst a v8 v1 x1) lk_RX3_183 ha (by decide) rfl rfl rfl rfl [.int (zI v8), .int (zI v1), .int (zI x1)] ⟨rfl, hG, hS_s31, ha, (by omega), (by omega), (by omega)⟩ rfl rfl ⟨by decide, by decide⟩ ⟨by decide, by decide⟩ (k2 := 0) (n2 := 0) rfl rfl (Nat.le_of_ble_eq_true rfl) dX3_judge_173 (kIP (fun v36 q37 => ?_))
              refine j_iadd hx (r := 6 * v8 + v36) dX3_judge_176 (by omega) ?_
              refine j_norm (fun v38 f39 f40 f41 => ?_)
              refine j_iconst hx dX3_judge_177 ?_
              refine j_callV hx hG (c_X3_addTally hst a v38 1) lk_RX3_169 ha (by decide) rfl rfl rfl rfl [.int (zI v38), .int (zI 1)] ⟨rfl, hG, hS_s31, ha, (by omega), (by omega)⟩ rfl rfl ⟨by decide, by decide⟩ ⟨by decide, by decide⟩ (k2 := 0) (n2 := 0) rfl rfl (Nat.le_of_ble_eq_true rfl) dX3_judge_178 (kVM (fun s32 hS_s32 hF_s32 q43 => ?_))
              refine j_aload_n hx 2 dX3_judge_181 rfl ?_
              refine j_bipush hx dX3_judge_182 rfl ?_
              refine j_iload hx 6 dX3_judge_184 rfl ?_
              refine j_iadd hx (r := v8 + 18) dX3_judge_186 (by omega) ?_
              refine j_iload hx 0 dX3_judge_187 rfl ?_
              refine j_callV hx hG (c_X3_addTally hst a (v8 + 18) v34) lk_RX3_169 ha (by decide) rfl rfl rfl rfl [.int (zI (v8 + 18)), .int (zI v34)] ⟨rfl, hG, hS_s32, ha, (by omega), (by omega)⟩ rfl rfl ⟨by decide, by decide⟩ ⟨by decide, by decide⟩ (k2 := 0) (n2 := 0) rfl rfl (Nat.le_of_ble_eq_true rfl) dX3_judge_189 (kVM (fun s33 hS_s33 hF_s33 q45 => ?_))
              refine j_goto hx 219 dX3_judge_192 rfl ?_
              exact j_sub [2, 4, 5, 6, 1, 0] [(0, .ref a), (2, .int (zI v1)), (4, .int (zI v3)), (5, .int (zI v8)), (6, .int (zI v9)), (7, .int (zI v34))] rfl (c219_14 v34 s33 (by omega) hS_s33 (zFr_t (zFr_t (zFr_t zFr_rf hF_s31 (by decide)) hF_s32 (by decide)) hF_s33 (by decide)))
          have c131_34 : JJ X E 8 G s8 0 0 [(0, .ref a), (1, .int (zI x1)), (2, .int (zI v1)), (4, .int (zI v3)), (5, .int (zI v8))] 131 [] := by
            refine j_iconst hx dX3_judge_131 ?_
            exact j_sub [0, 1, 2, 3, 4] [(0, .ref a), (1, .int (zI x1)), (2, .int (zI v1)), (4, .int (zI v3)), (5, .int (zI v8))] rfl (c132_12 0 (by omega))
          refine j_icmp_eq hx 131 dX3_judge_116 rfl (by omega) ⟨by decide, by decide⟩ (fun h46 => ?_) (fun h46 => ?_)
          · skip
            exact j_sub [0, 1, 2, 3, 4] [(0, .ref a), (1, .int (zI x1)), (2, .int (zI v1)), (4, .int (zI v3)), (5, .int (zI v8))] rfl (c131_34  )
          · skip
            refine j_aload_n hx 0 dX3_judge_119 rfl ?_
            have f47 := zf hS0 ha (k := 11) rfl
            refine g4_11 hx hG ha kf_RX3_37 (v := (s0 a 11)) (by rw [(zFr_g hF_s8 ha (by decide))]) dX3_judge_120 ?_
            refine j_iconst hx dX3_judge_123 ?_
            refine j_icmp_eq hx 131 dX3_judge_124 rfl (by omega) ⟨by decide, by decide⟩ (fun h48 => ?_) (fun h48 => ?_)
            · skip
              exact j_sub [0, 1, 2, 3, 4] [(0, .ref a), (1, .int (zI x1)), (2, .int (zI v1)), (4, .int (zI v3)), (5, .int (zI v8))] rfl (c131_34  )
            · skip
              refine j_iconst hx dX3_judge_127 ?_
              refine j_goto hx 132 dX3_judge_128 rfl ?_
              exact j_sub [0, 1, 2, 3, 4] [(0, .ref a), (1, .int (zI x1)), (2, .int (zI v1)), (4, .int (zI v3)), (5, .int (zI v8))] rfl (c132_12 1 (by omega))
        refine j_icmp_eq hx 113 dX3_judge_89 rfl (by omega) ⟨by decide, by decide⟩ (fun h49 => ?_) (fun h49 => ?_)
        · skip
          exact j_sub [0, 1, 2, 4, 5] [(0, .ref a), (1, .int (zI x1)), (2, .int (zI v1)), (4, .int (zI v3)), (5, .int (zI v4))] rfl (c113_7 v4 s0 (by omega) hS0 zFr_rf)
        · skip
          refine j_iload_n hx 3 dX3_judge_92 rfl ?_
          refine j_iconst hx dX3_judge_93 ?_
          refine j_icmp_le hx 113 dX3_judge_94 rfl (by omega) ⟨by decide, by decide⟩ (fun h50 => ?_) (fun h50 => ?_)
          · skip
            exact j_sub [0, 1, 2, 4, 5] [(0, .ref a), (1, .int (zI x1)), (2, .int (zI v1)), (4, .int (zI v3)), (5, .int (zI v4))] rfl (c113_7 v4 s0 (by omega) hS0 zFr_rf)
          · skip
            refine j_aload_n hx 0 dX3_judge_97 rfl ?_
            refine j_iconst hx dX3_judge_98 ?_
            refine j_callV hx hG (c_X3_lawOf hst a 1) lk_RX3_173 ha (by decide) rfl rfl rfl rfl [.int (zI 1)] ⟨rfl, hG, hS0, ha, (by omega)⟩ rfl rfl ⟨by decide, by decide⟩ ⟨by decide, by decide⟩ (k2 := 0) (n2 := 0) rfl rfl (Nat.le_of_ble_eq_true rfl) dX3_judge_99 (kIP (fun v51 q52 => ?_))
            refine j_if_eq hx 113 dX3_judge_102 rfl (by omega) (fun h53 => ?_) (fun h53 => ?_)
            · skip
              exact j_sub [0, 1, 2, 4, 5] [(0, .ref a), (1, .int (zI x1)), (2, .int (zI v1)), (4, .int (zI v3)), (5, .int (zI v4))] rfl (c113_7 v4 s0 (by omega) hS0 zFr_rf)
            · skip
              refine j_aload_n hx 0 dX3_judge_105 rfl ?_
              refine j_iload_n hx 2 dX3_judge_106 rfl ?_
              refine j_callV hx hG (c_X3_fallTogether hst a v1) lk_RX3_176 ha (by decide) rfl rfl rfl rfl [.int (zI v1)] ⟨rfl, hG, hS0, ha, (by omega)⟩ rfl rfl ⟨by decide, by decide⟩ ⟨by decide, by decide⟩ (k2 := 0) (n2 := 0) rfl rfl (Nat.le_of_ble_eq_true rfl) dX3_judge_107 (kVM (fun s35 hS_s35 hF_s35 q55 => ?_))
              refine j_iconst hx dX3_judge_110 ?_
              refine j_istore hx [(5, .int (zI (-1))), (0, .ref a), (1, .int (zI x1)), (2, .int (zI v1)), (3, .int (zI v2)), (4, .int (zI v3)), (6, .int (zI v5))] dX3_judge_111 (by decide) rfl ?_
              exact j_sub [1, 2, 3, 5, 0] [(0, .ref a), (1, .int (zI x1)), (2, .int (zI v1)), (4, .int (zI v3)), (5, .int (zI (-1)))] rfl (c113_7 (-1) s35 (by omega) hS_s35 (zFr_t zFr_rf hF_s35 (by decide)))
      · skip
        refine j_aload_n hx 0 dX3_judge_26 rfl ?_
        refine j_iload hx 6 dX3_judge_27 rfl ?_
        refine j_callV hx hG (c_X3_delayOf hst a v5) lk_RX3_163 ha (by decide) rfl rfl rfl rfl [.int (zI v5)] ⟨rfl, hG, hS0, ha, (by omega)⟩ rfl rfl ⟨by decide, by decide⟩ ⟨by decide, by decide⟩ (k2 := 0) (n2 := 0) rfl rfl (Nat.le_of_ble_eq_true rfl) dX3_judge_29 (kIP (fun v56 q57 => ?_))
        refine j_istore hx [(7, .int (zI v56)), (0, .ref a), (1, .int (zI x1)), (2, .int (zI v1)), (3, .int (zI v2)), (4, .int (zI v3)), (5, .int (zI v4)), (6, .int (zI v5))] dX3_judge_32 (by decide) rfl ?_
        refine j_iload hx 5 dX3_judge_34 rfl ?_
        refine j_iload hx 0 dX3_judge_36 rfl ?_
        refine j_bipush hx dX3_judge_38 rfl ?_
        have c48_36 : ∀ (v58 : Int), (0 ≤ v58 ∧ v58 ≤ 1) → JJ X E 8 G s0 0 0 [(0, .ref a), (1, .int (zI x1)), (2, .int (zI v1)), (3, .int (zI v2)), (5, .int (zI v4)), (6, .int (zI v5)), (7, .int (zI v56))] 48 [.int (zI v58), .int (zI v3)] := by
          intro v58 fA37
          refine j_iadd hx (r := v3 + v58) dX3_judge_48 rfl ?_
          refine j_norm (fun v59 f60 f61 f62 => ?_)
          refine j_istore hx [(4, .int (zI v59)), (0, .ref a), (1, .int (zI x1)), (2, .int (zI v1)), (3, .int (zI v2)), (5, .int (zI v4)), (6, .int (zI v5)), (7, .int (zI v56))] dX3_judge_49 (by decide) rfl ?_
          refine j_iload_n hx 4 dX3_judge_51 rfl ?_
          refine j_iload hx 7 dX3_judge_52 rfl ?_
          refine j_iload_n hx 3 dX3_judge_54 rfl ?_
          have c63_38 : ∀ (v63 : Int), (0 ≤ v63 ∧ v63 ≤ 1) → JJ X E 8 G s0 0 0 [(0, .ref a), (1, .int (zI x1)), (2, .int (zI v1)), (4, .int (zI v59)), (5, .int (zI v4)), (6, .int (zI v5)), (7, .int (zI v56))] 63 [.int (zI v63), .int (zI v2)] := by
            intro v63 fA39
            refine j_iadd hx (r := v2 + v63) dX3_judge_63 rfl ?_
            refine j_norm (fun v64 f65 f66 f67 => ?_)
            refine j_istore_n hx [(3, .int (zI v64)), (0, .ref a), (1, .int (zI x1)), (2, .int (zI v1)), (4, .int (zI v59)), (5, .int (zI v4)), (6, .int (zI v5)), (7, .int (zI v56))] dX3_judge_64 (by decide) rfl ?_
            refine j_iload hx 7 dX3_judge_65 rfl ?_
            refine j_iload_n hx 3 dX3_judge_67 rfl ?_
            have c80_40 : ∀ (v68 : Int) (v69 : Int) (v70 : Int), ((-2147483648) ≤ v68 ∧ v68 ≤ 99) → ((-2147483648) ≤ v69 ∧ v69 ≤ 2147483647) → ((-1) ≤ v70 ∧ v70 ≤ 2) → JJ X E 8 G s0 0 0 [(0, .ref a), (1, .int (zI x1)), (2, .int (zI v68)), (3, .int (zI v69)), (4, .int (zI v59)), (5, .int (zI v70)), (6, .int (zI v5))] 80 [] := by
              intro v68 v69 v70 fA41 fA42 fA43
              refine j_iinc hx 6 [(6, .int (zI (v5 + 1))), (0, .ref a), (1, .int (zI x1)), (2, .int (zI v68)), (3, .int (zI v69)), (4, .int (zI v59)), (5, .int (zI v70))] dX3_judge_80 rfl (by omega) (by decide) rfl ?_
              refine j_goto hx 14 dX3_judge_83 rfl ?_
              exact j_sub [1, 2, 3, 4, 5, 6, 0] [(0, .ref a), (1, .int (zI x1)), (2, .int (zI v68)), (3, .int (zI v69)), (4, .int (zI v59)), (5, .int (zI v70)), (6, .int (zI (v5 + 1)))] rfl (ih_c14_1 v68 v69 v59 v70 (v5 + 1) (by omega) (by omega) (by omega) (by omega) (by omega) (by omega))
            refine j_icmp_ge hx 80 dX3_judge_68 rfl (by omega) (by omega) (fun h71 => ?_) (fun h71 => ?_)
            · skip
              exact j_sub [1, 2, 3, 0, 4, 5, 6] [(0, .ref a), (1, .int (zI x1)), (2, .int (zI v1)), (3, .int (zI v64)), (4, .int (zI v59)), (5, .int (zI v4)), (6, .int (zI v5))] rfl (c80_40 v1 v64 v4 (by omega) (by omega) (by omega))
            · skip
              refine j_iload hx 7 dX3_judge_71 rfl ?_
              refine j_istore_n hx [(2, .int (zI v56)), (3, .int (zI v64)), (0, .ref a), (1, .int (zI x1)), (4, .int (zI v59)), (5, .int (zI v4)), (6, .int (zI v5)), (7, .int (zI v56))] dX3_judge_73 (by decide) rfl ?_
              refine j_iconst hx dX3_judge_74 ?_
              refine j_istore_n hx [(3, .int (zI 1)), (2, .int (zI v56)), (0, .ref a), (1, .int (zI x1)), (4, .int (zI v59)), (5, .int (zI v4)), (6, .int (zI v5)), (7, .int (zI v56))] dX3_judge_75 (by decide) rfl ?_
              refine j_iload hx 6 dX3_judge_76 rfl ?_
              refine j_istore hx [(5, .int (zI v5)), (3, .int (zI 1)), (2, .int (zI v56)), (0, .ref a), (1, .int (zI x1)), (4, .int (zI v59)), (6, .int (zI v5)), (7, .int (zI v56))] dX3_judge_78 (by decide) rfl ?_
              exact j_sub [3, 4, 2, 1, 5, 0, 6] [(0, .ref a), (1, .int (zI x1)), (2, .int (zI v56)), (3, .int (zI 1)), (4, .int (zI v59)), (5, .int (zI v5)), (6, .int (zI v5))] rfl (c80_40 v56 1 v5 (by omega) (by omega) (by omega))
          refine j_icmp_ne hx 62 dX3_judge_55 rfl (by omega) (by omega) (fun h72 => ?_) (fun h72 => ?_)
          · skip
            refine j_iconst hx dX3_judge_62 ?_
            exact j_sub [1, 2, 3, 0, 5, 6, 7] [(0, .ref a), (1, .int (zI x1)), (2, .int (zI v1)), (4, .int (zI v59)), (5, .int (zI v4)), (6, .int (zI v5)), (7, .int (zI v56))] rfl (c63_38 0 (by omega))
          · skip
            refine j_iconst hx dX3_judge_58 ?_
            refine j_goto hx 63 dX3_judge_59 rfl ?_
            exact j_sub [1, 2, 3, 0, 5, 6, 7] [(0, .ref a), (1, .int (zI x1)), (2, .int (zI v1)), (4, .int (zI v59)), (5, .int (zI v4)), (6, .int (zI v5)), (7, .int (zI v56))] rfl (c63_38 1 (by omega))
        refine j_icmp_ge hx 47 dX3_judge_40 rfl (by omega) ⟨by decide, by decide⟩ (fun h73 => ?_) (fun h73 => ?_)
        · skip
          refine j_iconst hx dX3_judge_47 ?_
          exact j_sub [1, 2, 3, 4, 6, 7, 0] [(0, .ref a), (1, .int (zI x1)), (2, .int (zI v1)), (3, .int (zI v2)), (5, .int (zI v4)), (6, .int (zI v5)), (7, .int (zI v56))] rfl (c48_36 0 (by omega))
        · skip
          refine j_iconst hx dX3_judge_43 ?_
          refine j_goto hx 48 dX3_judge_44 rfl ?_
          exact j_sub [1, 2, 3, 4, 6, 7, 0] [(0, .ref a), (1, .int (zI x1)), (2, .int (zI v1)), (3, .int (zI v2)), (5, .int (zI v4)), (6, .int (zI v5)), (7, .int (zI v56))] rfl (c48_36 1 (by omega))
  exact j_sub [5, 6, 4, 3, 2, 1, 0] [(0, .ref a), (1, .int (zI x1)), (2, .int (zI 99)), (3, .int (zI 0)), (4, .int (zI 0)), (5, .int (zI (-1))), (6, .int (zI 0))] rfl (c14_1 (2147483648 * 4) 99 0 0 (-1) 0 (by omega) (by omega) (by omega) (by omega) (by omega) (by omega))

theorem lk_RX3_123 : LkV RX3 123 RX0 yX0_whose cX0_whose 1 (some .int) 0 := ⟨km_RX3_123, ki_yX0_whose, ks_RX0_yX0_whose, kn_RX0, kc_yX0_whose, rfl, by decide +kernel, by decide +kernel, by decide +kernel⟩
theorem lk_RX3_126 : LkV RX3 126 RX0 yX0_turnOver cX0_turnOver 2 none 1 := ⟨km_RX3_126, ki_yX0_turnOver, ks_RX0_yX0_turnOver, kn_RX0, kc_yX0_turnOver, rfl, by decide +kernel, by decide +kernel, by decide +kernel⟩
theorem lk_RX3_130 : LkV RX3 130 RX3 yX3_look cX3_look 3 none 1 := ⟨km_RX3_130, ki_yX3_look, ks_RX3_yX3_look, kn_RX3, kc_yX3_look, rfl, by decide +kernel, by decide +kernel, by decide +kernel⟩
theorem lk_RX3_133 : LkV RX3 133 RX3 yX3_callAhead cX3_callAhead 2 none 0 := ⟨km_RX3_133, ki_yX3_callAhead, ks_RX3_yX3_callAhead, kn_RX3, kc_yX3_callAhead, rfl, by decide +kernel, by decide +kernel, by decide +kernel⟩
theorem lk_RX3_136 : LkV RX3 136 RX0 yX0_lay cX0_lay 3 (some .int) 1 := ⟨km_RX3_136, ki_yX0_lay, ks_RX0_yX0_lay, kn_RX0, kc_yX0_lay, rfl, by decide +kernel, by decide +kernel, by decide +kernel⟩
theorem lk_RX3_142 : LkV RX3 142 RX3 yX3_callBehind cX3_callBehind 4 none 1 := ⟨km_RX3_142, ki_yX3_callBehind, ks_RX3_yX3_callBehind, kn_RX3, kc_yX3_callBehind, rfl, by decide +kernel, by decide +kernel, by decide +kernel⟩
theorem lk_RX3_145 : LkV RX3 145 RX3 yX3_judge cX3_judge 8 none 1 := ⟨km_RX3_145, ki_yX3_judge, ks_RX3_yX3_judge, kn_RX3, kc_yX3_judge, rfl, by decide +kernel, by decide +kernel, by decide +kernel⟩
set_option maxHeartbeats 4000000 in
set_option maxRecDepth 20000 in
theorem c_X3_playTurn {E : zE} {l : Launch} (hst : l.stackTraces = false) (a : Nat) : Con E l yX3_playTurn cX3_playTurn 3 (some .boolean) { frames := 5, cells := 0, slots := 0, locals := 121 } (fun G s vs => vs = [.ref a] ∧ zGK G ∧ zSK G s ∧ (gT G a = 4)) (fun G s _ => pI (fun r G2 s2 => G2 = G ∧ zSK G s2 ∧ zFr [1, 4, 7, 41, 50, 51, 52] G s s2 ∧ (0 ≤ r ∧ r ≤ 1))) := by
  refine Con.mk hst (by decide) (fun G s vs h => by rw [h.1]; exact Nat.le_of_ble_eq_true rfl) ?_
  rintro X G s0 vs ⟨rfl, hG, hS0, ha⟩ rfl hx hq
  show JJ X E 3 G s0 0 0 [(0, .ref a)] 0 []
  refine j_aload_n hx 0 dX3_playTurn_0 rfl ?_
  refine g4_1 hx hG ha kf_RX3_14 dX3_playTurn_1 ?_
  refine j_callV hx hG (c_X0_whose hst (gP G a 1)) lk_RX3_123 (zr (k := 1) (t2 := 1) hG ha rfl) (by decide) rfl rfl rfl rfl [] ⟨rfl, hG, hS0, (zr (k := 1) (t2 := 1) hG ha rfl)⟩ rfl rfl ⟨by decide, by decide⟩ ⟨by decide, by decide⟩ (k2 := 0) (n2 := 0) rfl rfl (Nat.le_of_ble_eq_true rfl) dX3_playTurn_4 (kIP (fun v1 q2 => ?_))
  refine j_istore_n hx [(1, .int (zI v1)), (0, .ref a)] dX3_playTurn_7 (by decide) rfl ?_
  refine j_iload_n hx 0 dX3_playTurn_8 rfl ?_
  refine j_iconst hx dX3_playTurn_9 ?_
  refine j_icmp_ne hx 15 dX3_playTurn_10 rfl (by omega) ⟨by decide, by decide⟩ (fun h3 => ?_) (fun h3 => ?_)
  · skip
    refine j_aload_n hx 1 dX3_playTurn_15 rfl ?_
    refine g4_1 hx hG ha kf_RX3_14 dX3_playTurn_16 ?_
    refine j_iload_n hx 0 dX3_playTurn_19 rfl ?_
    refine j_callV hx hG (c_X0_turnOver hst (gP G a 1) v1) lk_RX3_126 (zr (k := 1) (t2 := 1) hG ha rfl) (by decide) rfl rfl rfl rfl [.int (zI v1)] ⟨rfl, hG, hS0, (zr (k := 1) (t2 := 1) hG ha rfl), (by omega)⟩ rfl rfl ⟨by decide, by decide⟩ ⟨by decide, by decide⟩ (k2 := 0) (n2 := 0) rfl rfl (Nat.le_of_ble_eq_true rfl) dX3_playTurn_20 (kVM (fun s1 hS_s1 hF_s1 q5 => ?_))
    refine j_aload_n hx 1 dX3_playTurn_23 rfl ?_
    refine j_iload_n hx 0 dX3_playTurn_24 rfl ?_
    refine j_callV hx hG (c_X3_look hst a v1) lk_RX3_130 ha (by decide) rfl rfl rfl rfl [.int (zI v1)] ⟨rfl, hG, hS_s1, ha, (by omega)⟩ rfl rfl ⟨by decide, by decide⟩ ⟨by decide, by decide⟩ (k2 := 0) (n2 := 0) rfl rfl (Nat.le_of_ble_eq_true rfl) dX3_playTurn_25 (kVM (fun s2 hS_s2 hF_s2 q7 => ?_))
    refine j_aload_n hx 1 dX3_playTurn_28 rfl ?_
    refine j_callV hx hG (c_X3_callAhead hst a) lk_RX3_133 ha (by decide) rfl rfl rfl rfl [] ⟨rfl, hG, hS_s2, ha⟩ rfl rfl ⟨by decide, by decide⟩ ⟨by decide, by decide⟩ (k2 := 0) (n2 := 0) rfl rfl (Nat.le_of_ble_eq_true rfl) dX3_playTurn_29 (kVM (fun s3 hS_s3 hF_s3 q9 => ?_))
    refine j_aload_n hx 1 dX3_playTurn_32 rfl ?_
    refine g4_1 hx hG ha kf_RX3_14 dX3_playTurn_33 ?_
    refine j_iload_n hx 0 dX3_playTurn_36 rfl ?_
    refine j_callV hx hG (c_X0_lay hst (gP G a 1) v1) lk_RX3_136 (zr (k := 1) (t2 := 1) hG ha rfl) (by decide) rfl rfl rfl rfl [.int (zI v1)] ⟨rfl, hG, hS_s3, (zr (k := 1) (t2 := 1) hG ha rfl), (by omega)⟩ rfl rfl ⟨by decide, by decide⟩ ⟨by decide, by decide⟩ (k2 := 0) (n2 := 0) rfl rfl (Nat.le_of_ble_eq_true rfl) dX3_playTurn_37 (kIM (fun v10 s4 hS_s4 hF_s4 q11 => ?_))
    refine j_istore_n hx [(2, .int (zI v10)), (1, .int (zI v1)), (0, .ref a)] dX3_playTurn_40 (by decide) rfl ?_
    refine j_aload_n hx 2 dX3_playTurn_41 rfl ?_
    refine j_aload_n hx 2 dX3_playTurn_42 rfl ?_
    refine g4_1 hx hG ha kf_RX3_14 dX3_playTurn_43 ?_
    refine j_iload_n hx 1 dX3_playTurn_46 rfl ?_
    refine j_callV hx hG (c_X0_following hst (gP G a 1) v1) lk_RX3_139 (zr (k := 1) (t2 := 1) hG ha rfl) (by decide) rfl rfl rfl rfl [.int (zI v1)] ⟨rfl, hG, hS_s4, (zr (k := 1) (t2 := 1) hG ha rfl), (by omega)⟩ rfl rfl ⟨by decide, by decide⟩ ⟨by decide, by decide⟩ (k2 := 0) (n2 := 0) rfl rfl (Nat.le_of_ble_eq_true rfl) dX3_playTurn_47 (kIP (fun v12 q13 => ?_))
    refine j_callV hx hG (c_X3_look hst a v12) lk_RX3_130 ha (by decide) rfl rfl rfl rfl [.int (zI v12)] ⟨rfl, hG, hS_s4, ha, (by omega)⟩ rfl rfl ⟨by decide, by decide⟩ ⟨by decide, by decide⟩ (k2 := 0) (n2 := 0) rfl rfl (Nat.le_of_ble_eq_true rfl) dX3_playTurn_50 (kVM (fun s5 hS_s5 hF_s5 q15 => ?_))
    refine j_aload_n hx 2 dX3_playTurn_53 rfl ?_
    refine j_iload_n hx 1 dX3_playTurn_54 rfl ?_
    refine j_callV hx hG (c_X3_callBehind hst a v1) lk_RX3_142 ha (by decide) rfl rfl rfl rfl [.int (zI v1)] ⟨rfl, hG, hS_s5, ha, (by omega)⟩ rfl rfl ⟨by decide, by decide⟩ ⟨by decide, by decide⟩ (k2 := 0) (n2 := 0) rfl rfl (Nat.le_of_ble_eq_true rfl) dX3_playTurn_55 (kVM (fun s6 hS_s6 hF_s6 q17 => ?_))
    refine j_aload_n hx 2 dX3_playTurn_58 rfl ?_
    refine j_iload_n hx 0 dX3_playTurn_59 rfl ?_
    refine j_callV hx hG (c_X3_judge hst a v10) lk_RX3_145 ha (by decide) rfl rfl rfl rfl [.int (zI v10)] ⟨rfl, hG, hS_s6, ha, (by omega)⟩ rfl rfl ⟨by decide, by decide⟩ ⟨by decide, by decide⟩ (k2 := 0) (n2 := 0) rfl rfl (Nat.le_of_ble_eq_true rfl) dX3_playTurn_60 (kVM (fun s7 hS_s7 hF_s7 q19 => ?_))
    refine j_aload_n hx 2 dX3_playTurn_63 rfl ?_
    refine j_dup hx dX3_playTurn_64 rfl ?_
    have f20 := zf hS_s7 ha (k := 10) rfl
    refine g4_10 hx hG ha kf_RX3_71 rfl dX3_playTurn_65 ?_
    refine j_iconst hx dX3_playTurn_68 ?_
    refine j_iadd hx (r := (s7 a 10) + 1) dX3_playTurn_69 (by omega) ?_
    refine j_norm (fun v21 f22 f23 f24 => ?_)
    refine p4_10 hx hG ha kf_RX3_71 dX3_playTurn_70 ?_
    obtain ⟨s8, e_s8⟩ : ∃ z, z = zU s7 a 10 v21 := ⟨_, rfl⟩
    rw [← e_s8]
    have hS_s8 : zSK G s8 := by rw [e_s8]; exact zSK_F hS_s7 ha rfl rfl rfl (by omega)
    refine j_iconst hx dX3_playTurn_73 ?_
    exact j_zret hx hq rfl (by decide) (by decide) dX3_playTurn_74 (by omega) ⟨1, rfl, rfl, hS_s8, (zFr_u (zFr_t (zFr_t (zFr_t (zFr_t (zFr_t (zFr_t (zFr_t zFr_rf hF_s1 (by decide)) hF_s2 (by decide)) hF_s3 (by decide)) hF_s4 (by decide)) hF_s5 (by decide)) hF_s6 (by decide)) hF_s7 (by decide)) e_s8 ha (by decide)), (by omega)⟩
  · skip
    refine j_iconst hx dX3_playTurn_13 ?_
    exact j_zret hx hq rfl (by decide) (by decide) dX3_playTurn_14 (by omega) ⟨0, rfl, rfl, hS0, zFr_rf, (by omega)⟩

set_option maxHeartbeats 4000000 in
set_option maxRecDepth 20000 in
theorem c_X3_lastOf {E : zE} {l : Launch} (hst : l.stackTraces = false) (a : Nat) (x1 : Int) : Con E l yX3_lastOf cX3_lastOf 2 (some .int) { frames := 0, cells := 0, slots := 0, locals := 0 } (fun G s vs => vs = [.ref a, .int (zI x1)] ∧ zGK G ∧ zSK G s ∧ (gT G a = 4) ∧ ((-2147483648) ≤ x1 ∧ x1 ≤ 2147483647)) (fun G s _ => pI (fun r G2 s2 => G2 = G ∧ s2 = s ∧ ((-2147483648) ≤ r ∧ r ≤ 2147483647))) := by
  refine Con.mk hst (by decide) (fun G s vs h => by rw [h.1]; exact Nat.le_of_ble_eq_true rfl) ?_
  rintro X G s0 vs ⟨rfl, hG, hS0, ha, hx1⟩ rfl hx hq
  show JJ X E 2 G s0 0 0 [(0, .ref a), (1, .int (zI x1))] 0 []
  refine j_aload_n hx 0 dX3_lastOf_0 rfl ?_
  have f1 := zf hS0 ha (k := 7) rfl
  refine g4_7 hx hG ha kf_RX3_61 rfl dX3_lastOf_1 ?_
  refine j_if_eq hx 29 dX3_lastOf_4 rfl (by omega) (fun h2 => ?_) (fun h2 => ?_)
  · skip
    refine j_iconst hx dX3_lastOf_29 ?_
    exact j_iret hx hq rfl (by decide) (by decide) dX3_lastOf_30 ⟨(-1), rfl, rfl, rfl, (by omega)⟩
  · skip
    refine j_iload_n hx 1 dX3_lastOf_7 rfl ?_
    refine j_if_lt hx 29 dX3_lastOf_8 rfl (by omega) (fun h3 => ?_) (fun h3 => ?_)
    · skip
      refine j_iconst hx dX3_lastOf_29 ?_
      exact j_iret hx hq rfl (by decide) (by decide) dX3_lastOf_30 ⟨(-1), rfl, rfl, rfl, (by omega)⟩
    · skip
      refine j_iload_n hx 1 dX3_lastOf_11 rfl ?_
      refine j_aload_n hx 0 dX3_lastOf_12 rfl ?_
      refine g4_5 hx hG ha kf_RX3_31 dX3_lastOf_13 ?_
      refine j_alen hx hG (zr (k := 5) (t2 := 51) hG ha rfl) (by decide) (by decide) (zlen hG (zr (k := 5) (t2 := 51) hG ha rfl) (n := 5) rfl rfl) dX3_lastOf_16 ?_
      refine j_icmp_ge hx 29 dX3_lastOf_17 rfl (by omega) ⟨by decide, by decide⟩ (fun h4 => ?_) (fun h4 => ?_)
      · skip
        refine j_iconst hx dX3_lastOf_29 ?_
        exact j_iret hx hq rfl (by decide) (by decide) dX3_lastOf_30 ⟨(-1), rfl, rfl, rfl, (by omega)⟩
      · skip
        refine j_aload_n hx 0 dX3_lastOf_20 rfl ?_
        refine g4_5 hx hG ha kf_RX3_31 dX3_lastOf_21 ?_
        refine j_iload_n hx 1 dX3_lastOf_24 rfl ?_
        have f5 := zaI (j := (x1).toNat) hS0 (zr (k := 5) (t2 := 51) hG ha rfl) rfl (zlen hG (zr (k := 5) (t2 := 51) hG ha rfl) (n := 5) rfl rfl) (show 0 ≤ x1 by omega) (by omega) rfl
        refine j_iald hx hG (zr (k := 5) (t2 := 51) hG ha rfl) (by decide) rfl (zlen hG (zr (k := 5) (t2 := 51) hG ha rfl) (n := 5) rfl rfl) (by omega) (by omega) (j := (x1).toNat) rfl rfl dX3_lastOf_25 ?_
        refine j_goto hx 30 dX3_lastOf_26 rfl ?_
        exact j_iret hx hq rfl (by decide) (by decide) dX3_lastOf_30 ⟨(s0 (gP G a 5) (x1).toNat), rfl, rfl, rfl, (by omega)⟩

set_option maxHeartbeats 4000000 in
set_option maxRecDepth 20000 in
theorem c_X4_record {E : zE} {l : Launch} (hst : l.stackTraces = false) (a : Nat) (x1 : Int) (x2 : Int) : Con E l yX4_record cX4_record 5 none { frames := 0, cells := 0, slots := 0, locals := 0 } (fun G s vs => vs = [.ref a, .int (zI x1), .int (zI x2)] ∧ zGK G ∧ zSK G s ∧ (gT G a = 5) ∧ ((-2147483648) ≤ x1 ∧ x1 ≤ 2147483647) ∧ ((-2147483648) ≤ x2 ∧ x2 ≤ 2147483647)) (fun G s _ => pV (fun G2 s2 => G2 = G ∧ zSK G s2 ∧ zFr [57] G s s2 ∧ True)) := by
  refine Con.mk hst (by decide) (fun G s vs h => by rw [h.1]; exact Nat.le_of_ble_eq_true rfl) ?_
  rintro X G s0 vs ⟨rfl, hG, hS0, ha, hx1, hx2⟩ rfl hx hq
  show JJ X E 5 G s0 0 0 [(0, .ref a), (1, .int (zI x1)), (2, .int (zI x2))] 0 []
  refine j_iload_n hx 1 dX4_record_0 rfl ?_
  refine j_bipush hx dX4_record_1 rfl ?_
  refine j_idiv hx dX4_record_3 (by omega) ⟨by decide, by decide⟩ (by decide) (fun v1 f2 f3 f4 => ?_)
  refine j_istore_n hx [(3, .int (zI v1)), (0, .ref a), (1, .int (zI x1)), (2, .int (zI x2))] dX4_record_4 (by decide) rfl ?_
  refine j_iload_n hx 2 dX4_record_5 rfl ?_
  refine j_if_lt hx 25 dX4_record_6 rfl (by omega) (fun h7 => ?_) (fun h7 => ?_)
  · skip
    exact j_vret hx hq rfl (by decide) (by decide) dX4_record_25 ⟨rfl, rfl, hS0, zFr_rf, trivial⟩
  · skip
    refine j_iload_n hx 2 dX4_record_9 rfl ?_
    refine j_sipush hx dX4_record_10 rfl ?_
    refine j_icmp_ge hx 25 dX4_record_13 rfl (by omega) ⟨by decide, by decide⟩ (fun h8 => ?_) (fun h8 => ?_)
    · skip
      exact j_vret hx hq rfl (by decide) (by decide) dX4_record_25 ⟨rfl, rfl, hS0, zFr_rf, trivial⟩
    · skip
      refine j_iload_n hx 0 dX4_record_16 rfl ?_
      refine j_aload_n hx 1 dX4_record_17 rfl ?_
      refine g5_0 hx hG ha kf_RX4_11 dX4_record_18 ?_
      refine j_alen hx hG (zr (k := 0) (t2 := 57) hG ha rfl) (by decide) (by decide) (zlen hG (zr (k := 0) (t2 := 57) hG ha rfl) (n := 323) rfl rfl) dX4_record_21 ?_
      refine j_icmp_lt hx 26 dX4_record_22 rfl (by omega) ⟨by decide, by decide⟩ (fun h9 => ?_) (fun h9 => ?_)
      · skip
        refine j_iconst hx dX4_record_26 ?_
        refine j_iload_n hx 2 dX4_record_27 rfl ?_
        refine j_bipush hx dX4_record_28 rfl ?_
        refine j_irem hx dX4_record_30 (by omega) ⟨by decide, by decide⟩ (by decide) (fun v10 f11 f12 f13 f14 => ?_)
        refine j_imul hx (r := 2 * v10) dX4_record_31 rfl ?_
        refine j_istore hx [(4, .int (zI (2 * v10))), (3, .int (zI v1)), (0, .ref a), (1, .int (zI x1)), (2, .int (zI x2))] dX4_record_32 (by decide) rfl ?_
        refine j_aload_n hx 2 dX4_record_34 rfl ?_
        refine g5_0 hx hG ha kf_RX4_11 dX4_record_35 ?_
        refine j_iload_n hx 1 dX4_record_38 rfl ?_
        refine j_aload_n hx 2 dX4_record_39 rfl ?_
        refine g5_0 hx hG ha kf_RX4_11 dX4_record_40 ?_
        refine j_iload_n hx 1 dX4_record_43 rfl ?_
        have f16 := zaI (j := (v1).toNat) hS0 (zr (k := 0) (t2 := 57) hG ha rfl) rfl (zlen hG (zr (k := 0) (t2 := 57) hG ha rfl) (n := 323) rfl rfl) (show 0 ≤ v1 by omega) (by omega) rfl
        refine j_lald hx hG (zr (k := 0) (t2 := 57) hG ha rfl) (by decide) rfl (zlen hG (zr (k := 0) (t2 := 57) hG ha rfl) (n := 323) rfl rfl) (by omega) (by omega) (j := (v1).toNat) rfl rfl dX4_record_44 ?_
        refine j_ldc2 hx (c := 3) dX4_record_45 kk_RX4_34 (by decide) ?_
        refine j_iload hx 0 dX4_record_48 rfl ?_
        refine j_lshl hx dX4_record_50 (fun w17 f18 f19 => ?_)
        refine j_ldc2 hx (c := (-1)) dX4_record_51 kk_RX4_36 (by decide) ?_
        refine j_lxor hx dX4_record_54 (fun w20 f21 f22 => ?_)
        refine j_land hx dX4_record_55 (fun w23 f24 f25 => ?_)
        refine j_iload_n hx 4 dX4_record_56 rfl ?_
        refine j_iconst hx dX4_record_57 ?_
        refine j_iadd hx (r := x2 + 1) dX4_record_58 rfl ?_
        refine j_norm (fun v26 f27 f28 f29 => ?_)
        refine j_i2l hx dX4_record_59 (by omega) ?_
        refine j_iload hx 0 dX4_record_60 rfl ?_
        refine j_lshl hx dX4_record_62 (fun w30 f31 f32 => ?_)
        refine j_lor hx dX4_record_63 (fun w33 f34 f35 => ?_)
        refine j_last hx hG (zr (k := 0) (t2 := 57) hG ha rfl) (by decide) rfl (zlen hG (zr (k := 0) (t2 := 57) hG ha rfl) (n := 323) rfl rfl) (by omega) (by omega) (j := (v1).toNat) rfl dX4_record_64 ?_
        obtain ⟨s1, e_s1⟩ : ∃ z, z = zU s0 (gP G a 0) (v1).toNat w33 := ⟨_, rfl⟩
        rw [← e_s1]
        have hS_s1 : zSK G s1 := by rw [e_s1]; exact zSK_A hS0 (zr (k := 0) (t2 := 57) hG ha rfl) rfl rfl rfl (by omega)
        exact j_vret hx hq rfl (by decide) (by decide) dX4_record_65 ⟨rfl, rfl, hS_s1, (zFr_u zFr_rf e_s1 (zr (k := 0) (t2 := 57) hG ha rfl) (by decide)), trivial⟩
      · skip
        exact j_vret hx hq rfl (by decide) (by decide) dX4_record_25 ⟨rfl, rfl, hS0, zFr_rf, trivial⟩

theorem lk_RX4_38 : LkV RX4 38 RX4 yX4_mark cX4_mark 5 none 1 := ⟨km_RX4_38, ki_yX4_mark, ks_RX4_yX4_mark, kn_RX4, kc_yX4_mark, rfl, by decide +kernel, by decide +kernel, by decide +kernel⟩
theorem lk_RX4_42 : LkV RX4 42 RX3 yX3_playTurn cX3_playTurn 3 (some .boolean) 0 := ⟨km_RX4_42, ki_yX3_playTurn, ks_RX3_yX3_playTurn, kn_RX3, kc_yX3_playTurn, rfl, by decide +kernel, by decide +kernel, by decide +kernel⟩
theorem lk_RX4_49 : LkV RX4 49 RX3 yX3_lastOf cX3_lastOf 2 (some .int) 1 := ⟨km_RX4_49, ki_yX3_lastOf, ks_RX3_yX3_lastOf, kn_RX3, kc_yX3_lastOf, rfl, by decide +kernel, by decide +kernel, by decide +kernel⟩
theorem lk_RX4_53 : LkV RX4 53 RX4 yX4_record cX4_record 5 none 2 := ⟨km_RX4_53, ki_yX4_record, ks_RX4_yX4_record, kn_RX4, kc_yX4_record, rfl, by decide +kernel, by decide +kernel, by decide +kernel⟩
set_option maxHeartbeats 4000000 in
set_option maxRecDepth 20000 in
theorem c_X4_playTurns {E : zE} {l : Launch} (hst : l.stackTraces = false) (a : Nat) (b1 : Nat) (x2 : Int) : Con E l yX4_playTurns cX4_playTurns 4 (some .int) { frames := 6, cells := 0, slots := 0, locals := 143 } (fun G s vs => vs = [.ref a, .ref b1, .int (zI x2)] ∧ zGK G ∧ zSK G s ∧ (gT G a = 5) ∧ (gT G b1 = 4) ∧ ((-2147483648) ≤ x2 ∧ x2 ≤ 2147483647)) (fun G s _ => pI (fun r G2 s2 => G2 = G ∧ zSK G s2 ∧ zFr [1, 4, 5, 7, 41, 50, 51, 52, 53, 57, 59, 60] G s s2 ∧ ((-2147483648) ≤ r ∧ r ≤ 2147483647))) := by
  refine Con.mk hst (by decide) (fun G s vs h => by rw [h.1]; exact Nat.le_of_ble_eq_true rfl) ?_
  rintro X G s0 vs ⟨rfl, hG, hS0, ha, hb1, hx2⟩ rfl hx hq
  show JJ X E 4 G s0 0 0 [(0, .ref a), (1, .ref b1), (2, .int (zI x2))] 0 []
  refine j_aload_n hx 0 dX4_playTurns_0 rfl ?_
  refine j_aload_n hx 1 dX4_playTurns_1 rfl ?_
  refine j_callV hx hG (c_X4_mark hst a b1) lk_RX4_38 ha (by decide) rfl rfl rfl rfl [.ref b1] ⟨rfl, hG, hS0, ha, hb1⟩ rfl rfl ⟨by decide, by decide⟩ ⟨by decide, by decide⟩ (k2 := 0) (n2 := 0) rfl rfl (Nat.le_of_ble_eq_true rfl) dX4_playTurns_2 (kVM (fun s1 hS_s1 hF_s1 q2 => ?_))
  refine j_iconst hx dX4_playTurns_5 ?_
  refine j_istore_n hx [(3, .int (zI 0)), (0, .ref a), (1, .ref b1), (2, .int (zI x2))] dX4_playTurns_6 (by decide) rfl ?_
  have c7_2 : ∀ (m_c7_2 : Nat) (v3 : Int) (s3 : zS), 2147483648 - v3 < m_c7_2 → (0 ≤ v3 ∧ v3 ≤ 2147483647) → (zSK G s3) → (zFr [1, 4, 7, 41, 50, 51, 52, 57] G s1 s3) → JJ X E 4 G s3 0 0 [(0, .ref a), (1, .ref b1), (2, .int (zI x2)), (3, .int (zI v3))] 7 [] := by
    intro m_c7_2
    induction m_c7_2 with
    | zero => intro v3 s3 hm_c7_2 fA4 hS_s3 hF_s3; exfalso; omega
    | succ m_c7_2 ih_c7_2 => 
      intro v3 s3 hm_c7_2 fA4 hS_s3 hF_s3
      refine j_iload_n hx 3 dX4_playTurns_7 rfl ?_
      refine j_iload_n hx 2 dX4_playTurns_8 rfl ?_
      refine j_icmp_ge hx 42 dX4_playTurns_9 rfl (by omega) (by omega) (fun h4 => ?_) (fun h4 => ?_)
      · skip
        refine j_iload_n hx 2 dX4_playTurns_42 rfl ?_
        exact j_iret hx hq rfl (by decide) (by decide) dX4_playTurns_43 ⟨x2, rfl, rfl, hS_s3, (zFr_t (zFr_t zFr_rf hF_s1 (by decide)) hF_s3 (by decide)), (by omega)⟩
      · skip
        refine j_aload_n hx 1 dX4_playTurns_12 rfl ?_
        refine j_callV hx hG (c_X3_playTurn hst b1) lk_RX4_42 hb1 (by decide) rfl rfl rfl rfl [] ⟨rfl, hG, hS_s3, hb1⟩ rfl rfl ⟨by decide, by decide⟩ ⟨by decide, by decide⟩ (k2 := 0) (n2 := 0) rfl rfl (Nat.le_of_ble_eq_true rfl) dX4_playTurns_13 (kIM (fun v5 s7 hS_s7 hF_s7 q6 => ?_))
        refine j_if_ne hx 21 dX4_playTurns_16 rfl (by omega) (fun h7 => ?_) (fun h7 => ?_)
        · skip
          refine j_aload_n hx 0 dX4_playTurns_21 rfl ?_
          refine j_aload_n hx 1 dX4_playTurns_22 rfl ?_
          have f8 := zf hS_s7 hb1 (k := 10) rfl
          refine gN4_10 hx hG hb1 kf_RX4_46 rfl dX4_playTurns_23 ?_
          refine j_iconst hx dX4_playTurns_26 ?_
          refine j_isub hx (r := (s7 b1 10) - 1) dX4_playTurns_27 (by omega) ?_
          refine j_norm (fun v9 f10 f11 f12 => ?_)
          refine j_aload_n hx 1 dX4_playTurns_28 rfl ?_
          refine j_iconst hx dX4_playTurns_29 ?_
          refine j_callV hx hG (c_X3_lastOf hst b1 0) lk_RX4_49 hb1 (by decide) rfl rfl rfl rfl [.int (zI 0)] ⟨rfl, hG, hS_s7, hb1, (by omega)⟩ rfl rfl ⟨by decide, by decide⟩ ⟨by decide, by decide⟩ (k2 := 0) (n2 := 0) rfl rfl (Nat.le_of_ble_eq_true rfl) dX4_playTurns_30 (kIP (fun v13 q14 => ?_))
          refine j_callV hx hG (c_X4_record hst a v9 v13) lk_RX4_53 ha (by decide) rfl rfl rfl rfl [.int (zI v9), .int (zI v13)] ⟨rfl, hG, hS_s7, ha, (by omega), (by omega)⟩ rfl rfl ⟨by decide, by decide⟩ ⟨by decide, by decide⟩ (k2 := 0) (n2 := 0) rfl rfl (Nat.le_of_ble_eq_true rfl) dX4_playTurns_33 (kVM (fun s8 hS_s8 hF_s8 q16 => ?_))
          refine j_iinc hx 3 [(3, .int (zI (v3 + 1))), (0, .ref a), (1, .ref b1), (2, .int (zI x2))] dX4_playTurns_36 rfl (by omega) (by decide) rfl ?_
          refine j_goto hx 7 dX4_playTurns_39 rfl ?_
          exact j_sub [1, 2, 3, 0] [(0, .ref a), (1, .ref b1), (2, .int (zI x2)), (3, .int (zI (v3 + 1)))] rfl (ih_c7_2 (v3 + 1) s8 (by omega) (by omega) hS_s8 (zFr_t (zFr_t (zFr_t zFr_rf hF_s3 (by decide)) hF_s7 (by decide)) hF_s8 (by decide)))
        · skip
          refine j_iload_n hx 3 dX4_playTurns_19 rfl ?_
          exact j_iret hx hq rfl (by decide) (by decide) dX4_playTurns_20 ⟨v3, rfl, rfl, hS_s7, (zFr_t (zFr_t (zFr_t zFr_rf hF_s1 (by decide)) hF_s3 (by decide)) hF_s7 (by decide)), (by omega)⟩
  exact j_sub [1, 2, 3, 0] [(0, .ref a), (1, .ref b1), (2, .int (zI x2)), (3, .int (zI 0))] rfl (c7_2 (2147483648 * 4) 0 s1 (by omega) (by omega) hS_s1 zFr_rf)

theorem lk_RX11_224 : LkV RX11 224 RX4 yX4_playTurns cX4_playTurns 4 (some .int) 2 := ⟨km_RX11_224, ki_yX4_playTurns, ks_RX4_yX4_playTurns, kn_RX4, kc_yX4_playTurns, rfl, by decide +kernel, by decide +kernel, by decide +kernel⟩
set_option maxHeartbeats 4000000 in
set_option maxRecDepth 20000 in
theorem c_X11_play {E : zE} {l : Launch} (hst : l.stackTraces = false) (a : Nat) (x1 : Int) : ConX E l yX11_play cX11_play 2 (some .int) { frames := 7, cells := 1, slots := 6, locals := 166 } (fun G s vs => vs = [.ref a, .int (zI x1)] ∧ zGK G ∧ zSK G s ∧ (gT G a = 12) ∧ ((-2147483648) ≤ x1 ∧ x1 ≤ 2147483647)) (fun G s _ => pI (fun r G2 s2 => G2 = G ∧ zSK G s2 ∧ zFr [1, 4, 5, 7, 41, 50, 51, 52, 53, 57, 59, 60] G s s2 ∧ ((-2147483648) ≤ r ∧ r ≤ 2147483647))) (fun G s _ Ex G2 s2 => G2 = G ∧ zSK G s2 ∧ zFr [1, 4, 5, 7, 12, 41, 50, 51, 52, 53, 57, 59, 60] G s s2 ∧ ((Ex = "java/lang/IllegalArgumentException" ∧ (True)))) := by
  refine ConX.mk hst (by decide) (fun G s vs h => by rw [h.1]; exact Nat.le_of_ble_eq_true rfl) ?_
  rintro X G s0 vs ⟨rfl, hG, hS0, ha, hx1⟩ rfl hx hq
  show JJ X E 2 G s0 0 0 [(0, .ref a), (1, .int (zI x1))] 0 []
  refine j_aload_n hx 0 dX11_play_0 rfl ?_
  refine j_iload_n hx 1 dX11_play_1 rfl ?_
  refine j_iconst hx dX11_play_2 ?_
  refine j_sipush hx dX11_play_3 rfl ?_
  refine j_callVX hx hq hG (c_X11_needRange hst a x1 1 999) lk_RX11_98 ha (by decide) rfl rfl rfl rfl [.int (zI x1), .int (zI 1), .int (zI 999)] ⟨rfl, hG, hS0, ha, (by omega), (by omega), (by omega)⟩ rfl rfl ⟨by decide, by decide⟩ ⟨by decide, by decide⟩ (k2 := 1) (n2 := 6) rfl rfl (Nat.le_of_ble_eq_true rfl) ⟨by decide, by decide⟩ dX11_play_6 (by rintro Ex9 G9 s9 ⟨rfl, hS9, hF9, e9, c9⟩; exact ⟨rfl, hS9, (zFr_t zFr_rf hF9 (by decide)), ⟨e9, by first | trivial | omega⟩⟩) (kVP (fun q2 => ?_))
  refine j_aload_n hx 0 dX11_play_9 rfl ?_
  refine g12_9 hx hG ha kf_RX11_69 dX11_play_10 ?_
  refine j_aload_n hx 0 dX11_play_13 rfl ?_
  refine g12_6 hx hG ha kf_RX11_48 dX11_play_14 ?_
  refine j_iload_n hx 1 dX11_play_17 rfl ?_
  refine j_callV hx hG (c_X4_playTurns hst (gP G a 9) (gP G a 6) x1) lk_RX11_224 (zr (k := 9) (t2 := 5) hG ha rfl) (by decide) rfl rfl rfl rfl [.ref (gP G a 6), .int (zI x1)] ⟨rfl, hG, hS0, (zr (k := 9) (t2 := 5) hG ha rfl), (zr (k := 6) (t2 := 4) hG ha rfl), (by omega)⟩ rfl rfl ⟨by decide, by decide⟩ ⟨by decide, by decide⟩ (k2 := 1) (n2 := 6) rfl rfl (Nat.le_of_ble_eq_true rfl) dX11_play_18 (kIM (fun v3 s1 hS_s1 hF_s1 q4 => ?_))
  exact j_iret hx hq.r rfl (by decide) (by decide) dX11_play_21 ⟨v3, rfl, rfl, hS_s1, (zFr_t zFr_rf hF_s1 (by decide)), (by omega)⟩

set_option maxHeartbeats 4000000 in
set_option maxRecDepth 20000 in
theorem c_X4_turnOfMark {E : zE} {l : Launch} (hst : l.stackTraces = false) (a : Nat) (x1 : Int) : Con E l yX4_turnOfMark cX4_turnOfMark 2 (some .int) { frames := 0, cells := 0, slots := 0, locals := 0 } (fun G s vs => vs = [.ref a, .int (zI x1)] ∧ zGK G ∧ zSK G s ∧ (gT G a = 5) ∧ ((-2147483648) ≤ x1 ∧ x1 ≤ 2147483647)) (fun G s _ => pI (fun r G2 s2 => G2 = G ∧ s2 = s ∧ ((-2147483648) ≤ r ∧ r ≤ 2147483647))) := by
  refine Con.mk hst (by decide) (fun G s vs h => by rw [h.1]; exact Nat.le_of_ble_eq_true rfl) ?_
  rintro X G s0 vs ⟨rfl, hG, hS0, ha, hx1⟩ rfl hx hq
  show JJ X E 2 G s0 0 0 [(0, .ref a), (1, .int (zI x1))] 0 []
  refine j_iload_n hx 1 dX4_turnOfMark_0 rfl ?_
  refine j_if_lt hx 22 dX4_turnOfMark_1 rfl (by omega) (fun h1 => ?_) (fun h1 => ?_)
  · skip
    refine j_iconst hx dX4_turnOfMark_22 ?_
    exact j_iret hx hq rfl (by decide) (by decide) dX4_turnOfMark_23 ⟨(-1), rfl, rfl, rfl, (by omega)⟩
  · skip
    refine j_iload_n hx 1 dX4_turnOfMark_4 rfl ?_
    refine j_aload_n hx 0 dX4_turnOfMark_5 rfl ?_
    refine g5_3 hx hG ha kf_RX4_24 dX4_turnOfMark_6 ?_
    refine j_alen hx hG (zr (k := 3) (t2 := 60) hG ha rfl) (by decide) (by decide) (zlen hG (zr (k := 3) (t2 := 60) hG ha rfl) (n := 512) rfl rfl) dX4_turnOfMark_9 ?_
    refine j_icmp_ge hx 22 dX4_turnOfMark_10 rfl (by omega) ⟨by decide, by decide⟩ (fun h2 => ?_) (fun h2 => ?_)
    · skip
      refine j_iconst hx dX4_turnOfMark_22 ?_
      exact j_iret hx hq rfl (by decide) (by decide) dX4_turnOfMark_23 ⟨(-1), rfl, rfl, rfl, (by omega)⟩
    · skip
      refine j_aload_n hx 0 dX4_turnOfMark_13 rfl ?_
      refine g5_3 hx hG ha kf_RX4_24 dX4_turnOfMark_14 ?_
      refine j_iload_n hx 1 dX4_turnOfMark_17 rfl ?_
      have f3 := zaI (j := (x1).toNat) hS0 (zr (k := 3) (t2 := 60) hG ha rfl) rfl (zlen hG (zr (k := 3) (t2 := 60) hG ha rfl) (n := 512) rfl rfl) (show 0 ≤ x1 by omega) (by omega) rfl
      refine j_iald hx hG (zr (k := 3) (t2 := 60) hG ha rfl) (by decide) rfl (zlen hG (zr (k := 3) (t2 := 60) hG ha rfl) (n := 512) rfl rfl) (by omega) (by omega) (j := (x1).toNat) rfl rfl dX4_turnOfMark_18 ?_
      refine j_goto hx 23 dX4_turnOfMark_19 rfl ?_
      exact j_iret hx hq rfl (by decide) (by decide) dX4_turnOfMark_23 ⟨(s0 (gP G a 3) (x1).toNat), rfl, rfl, rfl, (by omega)⟩

set_option maxHeartbeats 4000000 in
set_option maxRecDepth 20000 in
theorem c_X0_unpack {E : zE} {l : Launch} (hst : l.stackTraces = false) (a : Nat) (b1 : Nat) (x2 : Int) : Con E l yX0_unpack cX0_unpack 10 none { frames := 2, cells := 0, slots := 0, locals := 42 } (fun G s vs => vs = [.ref a, .ref b1, .int (zI x2)] ∧ zGK G ∧ zSK G s ∧ (gT G a = 1) ∧ (gT G b1 = 53) ∧ ((-2147483648) ≤ x2 ∧ x2 ≤ 2147483647)) (fun G s _ => pV (fun G2 s2 => G2 = G ∧ zSK G s2 ∧ zFr [1, 7, 41] G s s2 ∧ True)) := by
  refine Con.mk hst (by decide) (fun G s vs h => by rw [h.1]; exact Nat.le_of_ble_eq_true rfl) ?_
  rintro X G s0 vs ⟨rfl, hG, hS0, ha, hb1, hx2⟩ rfl hx hq
  show JJ X E 10 G s0 0 0 [(0, .ref a), (1, .ref b1), (2, .int (zI x2))] 0 []
  refine j_iload_n hx 2 dX0_unpack_0 rfl ?_
  refine j_if_lt hx 13 dX0_unpack_1 rfl (by omega) (fun h1 => ?_) (fun h1 => ?_)
  · skip
    exact j_vret hx hq rfl (by decide) (by decide) dX0_unpack_13 ⟨rfl, rfl, hS0, zFr_rf, trivial⟩
  · skip
    refine j_iload_n hx 2 dX0_unpack_4 rfl ?_
    refine j_aload_n hx 1 dX0_unpack_5 rfl ?_
    have f2 := znb hG b1
    refine j_alen hx hG hb1 (by decide) (by decide) rfl dX0_unpack_6 ?_
    refine j_bipush hx dX0_unpack_7 rfl ?_
    refine j_isub hx (r := (gN G b1 : Int) - 7) dX0_unpack_9 (by omega) ?_
    refine j_icmp_le hx 14 dX0_unpack_10 rfl (by omega) (by omega) (fun h3 => ?_) (fun h3 => ?_)
    · skip
      refine j_aload_n hx 1 dX0_unpack_14 rfl ?_
      refine j_iload_n hx 2 dX0_unpack_15 rfl ?_
      refine j_iconst hx dX0_unpack_16 ?_
      refine j_iadd hx (r := x2 + 5) dX0_unpack_17 rfl ?_
      have f4 := zaI (j := (x2 + 5).toNat) hS0 hb1 rfl rfl (show 0 ≤ x2 + 5 by omega) (by omega) rfl
      refine j_lald hx hG hb1 (by decide) rfl rfl (by omega) (by omega) (j := (x2 + 5).toNat) rfl rfl dX0_unpack_18 ?_
      refine j_lstore_n hx [(3, .long (zL ((s0 b1 (x2 + 5).toNat)))), (0, .ref a), (1, .ref b1), (2, .int (zI x2))] dX0_unpack_19 (by decide) rfl ?_
      refine j_iconst hx dX0_unpack_20 ?_
      refine j_istore hx [(5, .int (zI 0)), (3, .long (zL ((s0 b1 (x2 + 5).toNat)))), (0, .ref a), (1, .ref b1), (2, .int (zI x2))] dX0_unpack_21 (by decide) rfl ?_
      refine j_iconst hx dX0_unpack_23 ?_
      refine j_istore hx [(6, .int (zI 0)), (5, .int (zI 0)), (3, .long (zL ((s0 b1 (x2 + 5).toNat)))), (0, .ref a), (1, .ref b1), (2, .int (zI x2))] dX0_unpack_24 (by decide) rfl ?_
      have c26_1 : ∀ (m_c26_1 : Nat) (v5 : Int) (v6 : Int) (s2 : zS), 2147483648 - v6 < m_c26_1 → (0 ≤ v5 ∧ v5 ≤ 60) → (0 ≤ v6 ∧ v6 ≤ 7) → (zSK G s2) → (zFr [7, 41] G s0 s2) → JJ X E 10 G s2 0 0 [(0, .ref a), (1, .ref b1), (2, .int (zI x2)), (3, .long (zL ((s0 b1 (x2 + 5).toNat)))), (5, .int (zI v5)), (6, .int (zI v6))] 26 [] := by
        intro m_c26_1
        induction m_c26_1 with
        | zero => intro v5 v6 s2 hm_c26_1 fA3 fA4 hS_s2 hF_s2; exfalso; omega
        | succ m_c26_1 ih_c26_1 => 
          intro v5 v6 s2 hm_c26_1 fA3 fA4 hS_s2 hF_s2
          refine j_iload hx 5 dX0_unpack_26 rfl ?_
          refine j_bipush hx dX0_unpack_28 rfl ?_
          refine j_icmp_ge hx 118 dX0_unpack_30 rfl (by omega) ⟨by decide, by decide⟩ (fun h7 => ?_) (fun h7 => ?_)
          · skip
            refine j_aload_n hx 0 dX0_unpack_118 rfl ?_
            refine j_iconst hx dX0_unpack_119 ?_
            refine j_lload_n hx 3 dX0_unpack_120 rfl ?_
            refine j_bipush hx dX0_unpack_121 rfl ?_
            refine j_lushr hx dX0_unpack_123 (fun w8 f9 f10 => ?_)
            refine j_l2i hx dX0_unpack_124 (by omega) (fun v11 f12 f13 f14 => ?_)
            refine j_iconst hx dX0_unpack_125 ?_
            refine j_iand hx dX0_unpack_126 (by omega) ⟨by decide, by decide⟩ (fun v15 f16 f17 f18 f19 _ => ?_)
            refine j_iconst hx dX0_unpack_127 ?_
            refine j_isub hx (r := v15 - 1) dX0_unpack_128 rfl ?_
            refine j_mmax hx km_RX0_110 kst_max kn_RJ9 kc_Lib_Math_max_name ⟨by decide, by decide⟩ (by omega) ⟨by decide, Nat.le_of_ble_eq_true rfl⟩ ⟨by decide, by decide⟩ dX0_unpack_129 (fun v21 f22 f23 f24 => ?_)
            refine p1_8 hx hG ha kf_RX0_53 dX0_unpack_132 ?_
            obtain ⟨s7, e_s7⟩ : ∃ z, z = zU s2 a 8 v21 := ⟨_, rfl⟩
            rw [← e_s7]
            have hS_s7 : zSK G s7 := by rw [e_s7]; exact zSK_F hS_s2 ha rfl rfl rfl (by omega)
            exact j_vret hx hq rfl (by decide) (by decide) dX0_unpack_135 ⟨rfl, rfl, hS_s7, (zFr_u (zFr_t zFr_rf hF_s2 (by decide)) e_s7 ha (by decide)), trivial⟩
          · skip
            refine j_aload_n hx 0 dX0_unpack_33 rfl ?_
            refine j_iload hx 5 dX0_unpack_34 rfl ?_
            refine j_callV hx hG (c_X0_pileOf hst a v6) lk_RX0_47 ha (by decide) rfl rfl rfl rfl [.int (zI v6)] ⟨rfl, hG, hS_s2, ha, (by omega)⟩ rfl rfl ⟨by decide, by decide⟩ ⟨by decide, by decide⟩ (k2 := 0) (n2 := 0) rfl rfl (Nat.le_of_ble_eq_true rfl) dX0_unpack_36 (kRP (fun r25 q26 => ?_))
            refine j_astore hx [(7, .ref r25), (0, .ref a), (1, .ref b1), (2, .int (zI x2)), (3, .long (zL ((s0 b1 (x2 + 5).toNat)))), (5, .int (zI v5)), (6, .int (zI v6))] dX0_unpack_39 (by decide) rfl ?_
            refine j_lload_n hx 4 dX0_unpack_41 rfl ?_
            refine j_bipush hx dX0_unpack_42 rfl ?_
            refine j_iload hx 6 dX0_unpack_44 rfl ?_
            refine j_imul hx (r := 6 * v6) dX0_unpack_46 rfl ?_
            refine j_lushr hx dX0_unpack_47 (fun w27 f28 f29 => ?_)
            refine j_l2i hx dX0_unpack_48 (by omega) (fun v30 f31 f32 f33 => ?_)
            refine j_bipush hx dX0_unpack_49 rfl ?_
            refine j_iand hx dX0_unpack_51 (by omega) ⟨by decide, by decide⟩ (fun v34 f35 f36 f37 f38 _ => ?_)
            refine j_istore hx [(8, .int (zI v34)), (7, .ref r25), (0, .ref a), (1, .ref b1), (2, .int (zI x2)), (3, .long (zL ((s0 b1 (x2 + 5).toNat)))), (5, .int (zI v5)), (6, .int (zI v6))] dX0_unpack_52 (by decide) rfl ?_
            refine j_aload hx 1 dX0_unpack_54 rfl ?_
            refine j_iconst hx dX0_unpack_56 ?_
            refine pN7_1 hx hG q26 kf_RX0_43 dX0_unpack_57 ?_
            obtain ⟨s8, e_s8⟩ : ∃ z, z = zU s2 r25 1 0 := ⟨_, rfl⟩
            rw [← e_s8]
            have hS_s8 : zSK G s8 := by rw [e_s8]; exact zSK_F hS_s2 q26 rfl rfl rfl (by omega)
            refine j_iconst hx dX0_unpack_60 ?_
            refine j_istore hx [(9, .int (zI 0)), (8, .int (zI v34)), (7, .ref r25), (0, .ref a), (1, .ref b1), (2, .int (zI x2)), (3, .long (zL ((s0 b1 (x2 + 5).toNat)))), (5, .int (zI v5)), (6, .int (zI v6))] dX0_unpack_61 (by decide) rfl ?_
            have c63_9 : ∀ (m_c63_9 : Nat) (v40 : Int) (v41 : Int) (s10 : zS), 2147483648 - v41 < m_c63_9 → (0 ≤ v40 ∧ v40 ≤ 60) → (0 ≤ v41 ∧ v41 ≤ 63) → (zSK G s10) → (zFr [7, 41] G s8 s10) → JJ X E 10 G s10 0 0 [(0, .ref a), (1, .ref b1), (2, .int (zI x2)), (3, .long (zL ((s0 b1 (x2 + 5).toNat)))), (5, .int (zI v40)), (6, .int (zI v6)), (7, .ref r25), (8, .int (zI v34)), (9, .int (zI v41))] 63 [] := by
              intro m_c63_9
              induction m_c63_9 with
              | zero => intro v40 v41 s10 hm_c63_9 fA11 fA12 hS_s10 hF_s10; exfalso; omega
              | succ m_c63_9 ih_c63_9 => 
                intro v40 v41 s10 hm_c63_9 fA11 fA12 hS_s10 hF_s10
                refine j_iload hx 8 dX0_unpack_63 rfl ?_
                refine j_iload hx 7 dX0_unpack_65 rfl ?_
                have c112_15 : JJ X E 10 G s10 0 0 [(0, .ref a), (1, .ref b1), (2, .int (zI x2)), (3, .long (zL ((s0 b1 (x2 + 5).toNat)))), (5, .int (zI v40)), (6, .int (zI v6))] 112 [] := by
                  refine j_iinc hx 5 [(6, .int (zI (v6 + 1))), (0, .ref a), (1, .ref b1), (2, .int (zI x2)), (3, .long (zL ((s0 b1 (x2 + 5).toNat)))), (5, .int (zI v40))] dX0_unpack_112 rfl (by omega) (by decide) rfl ?_
                  refine j_goto hx 26 dX0_unpack_115 rfl ?_
                  exact j_sub [1, 2, 3, 4, 5, 0] [(0, .ref a), (1, .ref b1), (2, .int (zI x2)), (3, .long (zL ((s0 b1 (x2 + 5).toNat)))), (5, .int (zI v40)), (6, .int (zI (v6 + 1)))] rfl (ih_c26_1 v40 (v6 + 1) s10 (by omega) (by omega) (by omega) hS_s10 (zFr_t (zFr_u (zFr_t zFr_rf hF_s2 (by decide)) e_s8 q26 (by decide)) hF_s10 (by decide)))
                refine j_icmp_ge hx 112 dX0_unpack_67 rfl (by omega) (by omega) (fun h42 => ?_) (fun h42 => ?_)
                · skip
                  exact j_sub [0, 1, 2, 3, 4, 5] [(0, .ref a), (1, .ref b1), (2, .int (zI x2)), (3, .long (zL ((s0 b1 (x2 + 5).toNat)))), (5, .int (zI v40)), (6, .int (zI v6))] rfl (c112_15  )
                · skip
                  refine j_iload hx 4 dX0_unpack_70 rfl ?_
                  refine j_bipush hx dX0_unpack_72 rfl ?_
                  refine j_icmp_ge hx 112 dX0_unpack_74 rfl (by omega) ⟨by decide, by decide⟩ (fun h43 => ?_) (fun h43 => ?_)
                  · skip
                    exact j_sub [0, 1, 2, 3, 4, 5] [(0, .ref a), (1, .ref b1), (2, .int (zI x2)), (3, .long (zL ((s0 b1 (x2 + 5).toNat)))), (5, .int (zI v40)), (6, .int (zI v6))] rfl (c112_15  )
                  · skip
                    refine j_aload hx 6 dX0_unpack_77 rfl ?_
                    refine j_aload_n hx 1 dX0_unpack_79 rfl ?_
                    refine j_iload_n hx 2 dX0_unpack_80 rfl ?_
                    refine j_iload hx 4 dX0_unpack_81 rfl ?_
                    refine j_bipush hx dX0_unpack_83 rfl ?_
                    refine j_idiv hx dX0_unpack_85 (by omega) ⟨by decide, by decide⟩ (by decide) (fun v44 f45 f46 f47 => ?_)
                    refine j_iadd hx (r := x2 + v44) dX0_unpack_86 rfl ?_
                    have f50 := zaI (j := (x2 + v44).toNat) hS0 hb1 rfl rfl (show 0 ≤ x2 + v44 by omega) (by omega) rfl
                    refine j_lald hx hG hb1 (by decide) rfl rfl (by omega) (by omega) (j := (x2 + v44).toNat) rfl (v := (s0 b1 (x2 + v44).toNat)) (by rw [(zFr_g hF_s10 hb1 (by decide)), e_s8, zU_at (Or.inl (zne q26 hb1 (by decide))), (zFr_g hF_s2 hb1 (by decide))]) dX0_unpack_87 ?_
                    refine j_iconst hx dX0_unpack_88 ?_
                    refine j_iload hx 4 dX0_unpack_89 rfl ?_
                    refine j_bipush hx dX0_unpack_91 rfl ?_
                    refine j_irem hx dX0_unpack_93 (by omega) ⟨by decide, by decide⟩ (by decide) (fun v51 f52 f53 f54 f55 => ?_)
                    refine j_imul hx (r := 5 * v51) dX0_unpack_94 rfl ?_
                    refine j_lushr hx dX0_unpack_95 (fun w57 f58 f59 => ?_)
                    refine j_l2i hx dX0_unpack_96 (by omega) (fun v60 f61 f62 f63 => ?_)
                    refine j_bipush hx dX0_unpack_97 rfl ?_
                    refine j_iand hx dX0_unpack_99 (by omega) ⟨by decide, by decide⟩ (fun v64 f65 f66 f67 f68 _ => ?_)
                    refine j_callV hx hG (c_X6_put hst r25 v64) lk_RX0_88 q26 (by decide) rfl rfl rfl rfl [.int (zI v64)] ⟨rfl, hG, hS_s10, q26, (by omega)⟩ rfl rfl ⟨by decide, by decide⟩ ⟨by decide, by decide⟩ (k2 := 0) (n2 := 0) rfl rfl (Nat.le_of_ble_eq_true rfl) dX0_unpack_100 (kVM (fun s16 hS_s16 hF_s16 q71 => ?_))
                    refine j_iinc hx 4 [(5, .int (zI (v40 + 1))), (0, .ref a), (1, .ref b1), (2, .int (zI x2)), (3, .long (zL ((s0 b1 (x2 + 5).toNat)))), (6, .int (zI v6)), (7, .ref r25), (8, .int (zI v34)), (9, .int (zI v41))] dX0_unpack_103 rfl (by omega) (by decide) rfl ?_
                    refine j_iinc hx 8 [(9, .int (zI (v41 + 1))), (5, .int (zI (v40 + 1))), (0, .ref a), (1, .ref b1), (2, .int (zI x2)), (3, .long (zL ((s0 b1 (x2 + 5).toNat)))), (6, .int (zI v6)), (7, .ref r25), (8, .int (zI v34))] dX0_unpack_106 rfl (by omega) (by decide) rfl ?_
                    refine j_goto hx 63 dX0_unpack_109 rfl ?_
                    exact j_sub [2, 3, 4, 5, 1, 6, 7, 8, 0] [(0, .ref a), (1, .ref b1), (2, .int (zI x2)), (3, .long (zL ((s0 b1 (x2 + 5).toNat)))), (5, .int (zI (v40 + 1))), (6, .int (zI v6)), (7, .ref r25), (8, .int (zI v34)), (9, .int (zI (v41 + 1)))] rfl (ih_c63_9 (v40 + 1) (v41 + 1) s16 (by omega) (by omega) (by omega) hS_s16 (zFr_t (zFr_t zFr_rf hF_s10 (by decide)) hF_s16 (by decide)))
            exact j_sub [3, 4, 5, 6, 7, 8, 2, 1, 0] [(0, .ref a), (1, .ref b1), (2, .int (zI x2)), (3, .long (zL ((s0 b1 (x2 + 5).toNat)))), (5, .int (zI v5)), (6, .int (zI v6)), (7, .ref r25), (8, .int (zI v34)), (9, .int (zI 0))] rfl (c63_9 (2147483648 * 4) v5 0 s8 (by omega) (by omega) (by omega) hS_s8 zFr_rf)
      exact j_sub [3, 4, 5, 2, 1, 0] [(0, .ref a), (1, .ref b1), (2, .int (zI x2)), (3, .long (zL ((s0 b1 (x2 + 5).toNat)))), (5, .int (zI 0)), (6, .int (zI 0))] rfl (c26_1 (2147483648 * 4) 0 0 s0 (by omega) (by omega) (by omega) hS0 zFr_rf)
    · skip
      exact j_vret hx hq rfl (by decide) (by decide) dX0_unpack_13 ⟨rfl, rfl, hS0, zFr_rf, trivial⟩

theorem lk_RX4_90 : LkV RX4 90 RX0 yX0_unpack cX0_unpack 10 none 2 := ⟨km_RX4_90, ki_yX0_unpack, ks_RX0_yX0_unpack, kn_RX0, kc_yX0_unpack, rfl, by decide +kernel, by decide +kernel, by decide +kernel⟩
set_option maxHeartbeats 4000000 in
set_option maxRecDepth 20000 in
theorem c_X4_goTo {E : zE} {l : Launch} (hst : l.stackTraces = false) (a : Nat) (b1 : Nat) (x2 : Int) : Con E l yX4_goTo cX4_goTo 6 (some .boolean) { frames := 3, cells := 0, slots := 0, locals := 71 } (fun G s vs => vs = [.ref a, .ref b1, .int (zI x2)] ∧ zGK G ∧ zSK G s ∧ (gT G a = 5) ∧ (gT G b1 = 4) ∧ ((-2147483648) ≤ x2 ∧ x2 ≤ 2147483647)) (fun G s _ => pI (fun r G2 s2 => G2 = G ∧ zSK G s2 ∧ zFr [1, 4, 7, 41, 50] G s s2 ∧ (0 ≤ r ∧ r ≤ 1))) := by
  refine Con.mk hst (by decide) (fun G s vs h => by rw [h.1]; exact Nat.le_of_ble_eq_true rfl) ?_
  rintro X G s0 vs ⟨rfl, hG, hS0, ha, hb1, hx2⟩ rfl hx hq
  show JJ X E 6 G s0 0 0 [(0, .ref a), (1, .ref b1), (2, .int (zI x2))] 0 []
  refine j_iload_n hx 2 dX4_goTo_0 rfl ?_
  refine j_bipush hx dX4_goTo_1 rfl ?_
  refine j_imul hx (r := 7 * x2) dX4_goTo_3 (by omega) ?_
  refine j_norm (fun v1 f2 f3 f4 => ?_)
  refine j_istore_n hx [(3, .int (zI v1)), (0, .ref a), (1, .ref b1), (2, .int (zI x2))] dX4_goTo_4 (by decide) rfl ?_
  refine j_iload_n hx 3 dX4_goTo_5 rfl ?_
  refine j_if_lt hx 30 dX4_goTo_6 rfl (by omega) (fun h5 => ?_) (fun h5 => ?_)
  · skip
    refine j_iconst hx dX4_goTo_30 ?_
    exact j_zret hx hq rfl (by decide) (by decide) dX4_goTo_31 (by omega) ⟨0, rfl, rfl, hS0, zFr_rf, (by omega)⟩
  · skip
    refine j_iload_n hx 3 dX4_goTo_9 rfl ?_
    refine j_aload_n hx 1 dX4_goTo_10 rfl ?_
    refine g5_3 hx hG ha kf_RX4_24 dX4_goTo_11 ?_
    refine j_alen hx hG (zr (k := 3) (t2 := 60) hG ha rfl) (by decide) (by decide) (zlen hG (zr (k := 3) (t2 := 60) hG ha rfl) (n := 512) rfl rfl) dX4_goTo_14 ?_
    refine j_icmp_ge hx 30 dX4_goTo_15 rfl (by omega) ⟨by decide, by decide⟩ (fun h6 => ?_) (fun h6 => ?_)
    · skip
      refine j_iconst hx dX4_goTo_30 ?_
      exact j_zret hx hq rfl (by decide) (by decide) dX4_goTo_31 (by omega) ⟨0, rfl, rfl, hS0, zFr_rf, (by omega)⟩
    · skip
      refine j_iload_n hx 0 dX4_goTo_18 rfl ?_
      refine j_aload_n hx 1 dX4_goTo_19 rfl ?_
      refine g5_1 hx hG ha kf_RX4_15 dX4_goTo_20 ?_
      have f7 := znb hG (gP G a 1)
      refine j_alen hx hG (zr (k := 1) (t2 := 53) hG ha rfl) (by decide) (by decide) rfl dX4_goTo_23 ?_
      refine j_bipush hx dX4_goTo_24 rfl ?_
      refine j_isub hx (r := (gN G (gP G a 1) : Int) - 7) dX4_goTo_26 (by omega) ?_
      refine j_icmp_le hx 32 dX4_goTo_27 rfl (by omega) (by omega) (fun h8 => ?_) (fun h8 => ?_)
      · skip
        refine j_aload_n hx 2 dX4_goTo_32 rfl ?_
        refine gN4_1 hx hG hb1 kf_RX4_74 dX4_goTo_33 ?_
        refine j_aload_n hx 1 dX4_goTo_36 rfl ?_
        refine g5_1 hx hG ha kf_RX4_15 dX4_goTo_37 ?_
        refine j_iload_n hx 0 dX4_goTo_40 rfl ?_
        refine j_callV hx hG (c_X0_unpack hst (gP G b1 1) (gP G a 1) v1) lk_RX4_90 (zr (k := 1) (t2 := 1) hG hb1 rfl) (by decide) rfl rfl rfl rfl [.ref (gP G a 1), .int (zI v1)] ⟨rfl, hG, hS0, (zr (k := 1) (t2 := 1) hG hb1 rfl), (zr (k := 1) (t2 := 53) hG ha rfl), (by omega)⟩ rfl rfl ⟨by decide, by decide⟩ ⟨by decide, by decide⟩ (k2 := 0) (n2 := 0) rfl rfl (Nat.le_of_ble_eq_true rfl) dX4_goTo_41 (kVM (fun s1 hS_s1 hF_s1 q10 => ?_))
        refine j_aload_n hx 2 dX4_goTo_44 rfl ?_
        refine j_aload_n hx 1 dX4_goTo_45 rfl ?_
        refine g5_1 hx hG ha kf_RX4_15 dX4_goTo_46 ?_
        refine j_iload_n hx 0 dX4_goTo_49 rfl ?_
        refine j_bipush hx dX4_goTo_50 rfl ?_
        refine j_iadd hx (r := v1 + 6) dX4_goTo_52 rfl ?_
        have f11 := zaI (j := (v1 + 6).toNat) hS0 (zr (k := 1) (t2 := 53) hG ha rfl) rfl rfl (show 0 ≤ v1 + 6 by omega) (by omega) rfl
        refine j_lald hx hG (zr (k := 1) (t2 := 53) hG ha rfl) (by decide) rfl rfl (by omega) (by omega) (j := (v1 + 6).toNat) rfl (v := (s0 (gP G a 1) (v1 + 6).toNat)) (by rw [(zFr_g hF_s1 (zr (k := 1) (t2 := 53) hG ha rfl) (by decide))]) dX4_goTo_53 ?_
        refine j_l2i hx dX4_goTo_54 (by omega) (fun v12 f13 f14 f15 => ?_)
        refine pN4_9 hx hG hb1 kf_RX4_84 dX4_goTo_55 ?_
        obtain ⟨s2, e_s2⟩ : ∃ z, z = zU s1 b1 9 v12 := ⟨_, rfl⟩
        rw [← e_s2]
        have hS_s2 : zSK G s2 := by rw [e_s2]; exact zSK_F hS_s1 hb1 rfl rfl rfl (by omega)
        refine j_iconst hx dX4_goTo_58 ?_
        refine j_istore hx [(4, .int (zI 0)), (3, .int (zI v1)), (0, .ref a), (1, .ref b1), (2, .int (zI x2))] dX4_goTo_59 (by decide) rfl ?_
        have c61_3 : ∀ (m_c61_3 : Nat) (v16 : Int) (s4 : zS), 2147483648 - v16 < m_c61_3 → (0 ≤ v16 ∧ v16 ≤ 21) → (zSK G s4) → (zFr [50] G s2 s4) → JJ X E 6 G s4 0 0 [(0, .ref a), (1, .ref b1), (2, .int (zI x2)), (4, .int (zI v16))] 61 [] := by
          intro m_c61_3
          induction m_c61_3 with
          | zero => intro v16 s4 hm_c61_3 fA5 hS_s4 hF_s4; exfalso; omega
          | succ m_c61_3 ih_c61_3 => 
            intro v16 s4 hm_c61_3 fA5 hS_s4 hF_s4
            refine j_iload hx 3 dX4_goTo_61 rfl ?_
            refine j_bipush hx dX4_goTo_63 rfl ?_
            refine j_icmp_ge hx 121 dX4_goTo_65 rfl (by omega) ⟨by decide, by decide⟩ (fun h17 => ?_) (fun h17 => ?_)
            · skip
              refine j_aload_n hx 1 dX4_goTo_121 rfl ?_
              refine j_aload_n hx 0 dX4_goTo_122 rfl ?_
              refine g5_3 hx hG ha kf_RX4_24 dX4_goTo_123 ?_
              refine j_iload_n hx 2 dX4_goTo_126 rfl ?_
              have f18 := zaI (j := (x2).toNat) hS0 (zr (k := 3) (t2 := 60) hG ha rfl) rfl (zlen hG (zr (k := 3) (t2 := 60) hG ha rfl) (n := 512) rfl rfl) (show 0 ≤ x2 by omega) (by omega) rfl
              refine j_iald hx hG (zr (k := 3) (t2 := 60) hG ha rfl) (by decide) rfl (zlen hG (zr (k := 3) (t2 := 60) hG ha rfl) (n := 512) rfl rfl) (by omega) (by omega) (j := (x2).toNat) rfl (v := (s0 (gP G a 3) (x2).toNat)) (by rw [(zFr_g hF_s4 (zr (k := 3) (t2 := 60) hG ha rfl) (by decide)), e_s2, zU_at (Or.inl (zne hb1 (zr (k := 3) (t2 := 60) hG ha rfl) (by decide))), (zFr_g hF_s1 (zr (k := 3) (t2 := 60) hG ha rfl) (by decide))]) dX4_goTo_127 ?_
              refine pN4_10 hx hG hb1 kf_RX4_46 dX4_goTo_128 ?_
              obtain ⟨s8, e_s8⟩ : ∃ z, z = zU s4 b1 10 ((s0 (gP G a 3) (x2).toNat)) := ⟨_, rfl⟩
              rw [← e_s8]
              have hS_s8 : zSK G s8 := by rw [e_s8]; exact zSK_F hS_s4 hb1 rfl rfl rfl (by omega)
              refine j_iconst hx dX4_goTo_131 ?_
              exact j_zret hx hq rfl (by decide) (by decide) dX4_goTo_132 (by omega) ⟨1, rfl, rfl, hS_s8, (zFr_u (zFr_t (zFr_u (zFr_t zFr_rf hF_s1 (by decide)) e_s2 hb1 (by decide)) hF_s4 (by decide)) e_s8 hb1 (by decide)), (by omega)⟩
            · skip
              refine j_iload hx 3 dX4_goTo_68 rfl ?_
              refine j_aload_n hx 1 dX4_goTo_70 rfl ?_
              refine gN4_4 hx hG hb1 kf_RX4_93 dX4_goTo_71 ?_
              refine j_alen hx hG (zr (k := 4) (t2 := 50) hG hb1 rfl) (by decide) (by decide) (zlen hG (zr (k := 4) (t2 := 50) hG hb1 rfl) (n := 21) rfl rfl) dX4_goTo_74 ?_
              refine j_icmp_ge hx 121 dX4_goTo_75 rfl (by omega) ⟨by decide, by decide⟩ (fun h19 => absurd h19 (by omega)) (fun h19 => ?_)
              refine j_iload_n hx 2 dX4_goTo_78 rfl ?_
              refine j_bipush hx dX4_goTo_79 rfl ?_
              refine j_imul hx (r := 21 * x2) dX4_goTo_81 (by omega) ?_
              refine j_iload hx 3 dX4_goTo_82 rfl ?_
              refine j_iadd hx (r := 21 * x2 + v16) dX4_goTo_84 (by omega) ?_
              refine j_istore hx [(5, .int (zI (21 * x2 + v16))), (0, .ref a), (1, .ref b1), (2, .int (zI x2)), (4, .int (zI v16))] dX4_goTo_85 (by decide) rfl ?_
              refine j_aload_n hx 2 dX4_goTo_87 rfl ?_
              refine gN4_4 hx hG hb1 kf_RX4_93 dX4_goTo_88 ?_
              refine j_iload hx 4 dX4_goTo_91 rfl ?_
              refine j_iload hx 0 dX4_goTo_93 rfl ?_
              refine j_aload_n hx 1 dX4_goTo_95 rfl ?_
              refine g5_2 hx hG ha kf_RX4_20 dX4_goTo_96 ?_
              refine j_alen hx hG (zr (k := 2) (t2 := 59) hG ha rfl) (by decide) (by decide) (zlen hG (zr (k := 2) (t2 := 59) hG ha rfl) (n := 10752) rfl rfl) dX4_goTo_99 ?_
              refine j_icmp_ge hx 113 dX4_goTo_100 rfl (by omega) ⟨by decide, by decide⟩ (fun h20 => absurd h20 (by omega)) (fun h20 => ?_)
              refine j_aload_n hx 1 dX4_goTo_103 rfl ?_
              refine g5_2 hx hG ha kf_RX4_20 dX4_goTo_104 ?_
              refine j_iload hx 0 dX4_goTo_107 rfl ?_
              have f21 := zaI (j := (21 * x2 + v16).toNat) hS0 (zr (k := 2) (t2 := 59) hG ha rfl) rfl (zlen hG (zr (k := 2) (t2 := 59) hG ha rfl) (n := 10752) rfl rfl) (show 0 ≤ 21 * x2 + v16 by omega) (by omega) rfl
              refine j_iald hx hG (zr (k := 2) (t2 := 59) hG ha rfl) (by decide) rfl (zlen hG (zr (k := 2) (t2 := 59) hG ha rfl) (n := 10752) rfl rfl) (by omega) (by omega) (j := (21 * x2 + v16).toNat) rfl (v := (s0 (gP G a 2) (21 * x2 + v16).toNat)) (by rw [(zFr_g hF_s4 (zr (k := 2) (t2 := 59) hG ha rfl) (by decide)), e_s2, zU_at (Or.inl (zne hb1 (zr (k := 2) (t2 := 59) hG ha rfl) (by decide))), (zFr_g hF_s1 (zr (k := 2) (t2 := 59) hG ha rfl) (by decide))]) dX4_goTo_109 ?_
              refine j_goto hx 114 dX4_goTo_110 rfl ?_
              refine j_iast hx hG (zr (k := 4) (t2 := 50) hG hb1 rfl) (by decide) rfl (zlen hG (zr (k := 4) (t2 := 50) hG hb1 rfl) (n := 21) rfl rfl) (by omega) (by omega) (j := (v16).toNat) rfl dX4_goTo_114 ?_
              obtain ⟨s9, e_s9⟩ : ∃ z, z = zU s4 (gP G b1 4) (v16).toNat ((s0 (gP G a 2) (21 * x2 + v16).toNat)) := ⟨_, rfl⟩
              rw [← e_s9]
              have hS_s9 : zSK G s9 := by rw [e_s9]; exact zSK_A hS_s4 (zr (k := 4) (t2 := 50) hG hb1 rfl) rfl rfl rfl (by omega)
              refine j_iinc hx 4 [(4, .int (zI (v16 + 1))), (5, .int (zI (21 * x2 + v16))), (0, .ref a), (1, .ref b1), (2, .int (zI x2))] dX4_goTo_115 rfl (by omega) (by decide) rfl ?_
              refine j_goto hx 61 dX4_goTo_118 rfl ?_
              exact j_sub [2, 3, 4, 0] [(0, .ref a), (1, .ref b1), (2, .int (zI x2)), (4, .int (zI (v16 + 1)))] rfl (ih_c61_3 (v16 + 1) s9 (by omega) (by omega) hS_s9 (zFr_u (zFr_t zFr_rf hF_s4 (by decide)) e_s9 (zr (k := 4) (t2 := 50) hG hb1 rfl) (by decide)))
        exact j_sub [2, 3, 4, 0] [(0, .ref a), (1, .ref b1), (2, .int (zI x2)), (4, .int (zI 0))] rfl (c61_3 (2147483648 * 4) 0 s2 (by omega) (by omega) hS_s2 zFr_rf)
      · skip
        refine j_iconst hx dX4_goTo_30 ?_
        exact j_zret hx hq rfl (by decide) (by decide) dX4_goTo_31 (by omega) ⟨0, rfl, rfl, hS0, zFr_rf, (by omega)⟩

theorem lk_RX4_66 : LkV RX4 66 RX4 yX4_goTo cX4_goTo 6 (some .boolean) 2 := ⟨km_RX4_66, ki_yX4_goTo, ks_RX4_yX4_goTo, kn_RX4, kc_yX4_goTo, rfl, by decide +kernel, by decide +kernel, by decide +kernel⟩
theorem lk_RX4_63 : LkV RX4 63 RX4 yX4_turnOfMark cX4_turnOfMark 2 (some .int) 1 := ⟨km_RX4_63, ki_yX4_turnOfMark, ks_RX4_yX4_turnOfMark, kn_RX4, kc_yX4_turnOfMark, rfl, by decide +kernel, by decide +kernel, by decide +kernel⟩
set_option maxHeartbeats 4000000 in
set_option maxRecDepth 20000 in
theorem c_X4_undoTurns {E : zE} {l : Launch} (hst : l.stackTraces = false) (a : Nat) (b1 : Nat) (x2 : Int) : Con E l yX4_undoTurns cX4_undoTurns 7 (some .int) { frames := 6, cells := 0, slots := 0, locals := 143 } (fun G s vs => vs = [.ref a, .ref b1, .int (zI x2)] ∧ zGK G ∧ zSK G s ∧ (gT G a = 5) ∧ (gT G b1 = 4) ∧ ((-2147483648) ≤ x2 ∧ x2 ≤ 2147483647)) (fun G s _ => pI (fun r G2 s2 => G2 = G ∧ zSK G s2 ∧ zFr [1, 4, 5, 7, 41, 50, 51, 52] G s s2 ∧ ((-2147483648) ≤ r ∧ r ≤ 2147483647))) := by
  refine Con.mk hst (by decide) (fun G s vs h => by rw [h.1]; exact Nat.le_of_ble_eq_true rfl) ?_
  rintro X G s0 vs ⟨rfl, hG, hS0, ha, hb1, hx2⟩ rfl hx hq
  show JJ X E 7 G s0 0 0 [(0, .ref a), (1, .ref b1), (2, .int (zI x2))] 0 []
  refine j_iload_n hx 2 dX4_undoTurns_0 rfl ?_
  refine j_aload_n hx 1 dX4_undoTurns_1 rfl ?_
  have f1 := zf hS0 hb1 (k := 10) rfl
  refine gN4_10 hx hG hb1 kf_RX4_46 rfl dX4_undoTurns_2 ?_
  refine j_aload_n hx 0 dX4_undoTurns_5 rfl ?_
  have f2 := zf hS0 ha (k := 5) rfl
  refine g5_5 hx hG ha kf_RX4_27 rfl dX4_undoTurns_6 ?_
  refine j_isub hx (r := (s0 b1 10) - (s0 a 5)) dX4_undoTurns_9 (by omega) ?_
  refine j_norm (fun v3 f4 f5 f6 => ?_)
  refine j_mmin hx km_RX4_57 kst_min kn_RJ9 kc_Lib_Math_min_name (by omega) (by omega) ⟨by decide, Nat.le_of_ble_eq_true rfl⟩ ⟨by decide, by decide⟩ dX4_undoTurns_10 (fun v7 f8 f9 f10 => ?_)
  refine j_istore_n hx [(3, .int (zI v7)), (0, .ref a), (1, .ref b1), (2, .int (zI x2))] dX4_undoTurns_13 (by decide) rfl ?_
  refine j_aload_n hx 2 dX4_undoTurns_14 rfl ?_
  refine gN4_10 hx hG hb1 kf_RX4_46 rfl dX4_undoTurns_15 ?_
  refine j_iload_n hx 0 dX4_undoTurns_18 rfl ?_
  refine j_isub hx (r := (s0 b1 10) - v7) dX4_undoTurns_19 (by omega) ?_
  refine j_norm (fun v11 f12 f13 f14 => ?_)
  refine j_istore hx [(4, .int (zI v11)), (3, .int (zI v7)), (0, .ref a), (1, .ref b1), (2, .int (zI x2))] dX4_undoTurns_20 (by decide) rfl ?_
  refine j_iconst hx dX4_undoTurns_22 ?_
  refine j_istore hx [(5, .int (zI 0)), (4, .int (zI v11)), (3, .int (zI v7)), (0, .ref a), (1, .ref b1), (2, .int (zI x2))] dX4_undoTurns_23 (by decide) rfl ?_
  have c25_1 : ∀ (m_c25_1 : Nat) (v15 : Int) (s2 : zS), 2147483648 - v15 < m_c25_1 → (0 ≤ v15 ∧ v15 ≤ 512) → (zSK G s2) → (zFr [5] G s0 s2) → JJ X E 7 G s2 0 0 [(0, .ref a), (1, .ref b1), (3, .int (zI v7)), (4, .int (zI v11)), (5, .int (zI v15))] 25 [] := by
    intro m_c25_1
    induction m_c25_1 with
    | zero => intro v15 s2 hm_c25_1 fA3 hS_s2 hF_s2; exfalso; omega
    | succ m_c25_1 ih_c25_1 => 
      intro v15 s2 hm_c25_1 fA3 hS_s2 hF_s2
      refine j_iload hx 4 dX4_undoTurns_25 rfl ?_
      refine j_sipush hx dX4_undoTurns_27 rfl ?_
      have c64_6 : JJ X E 7 G s2 0 0 [(0, .ref a), (1, .ref b1), (3, .int (zI v7)), (4, .int (zI v11))] 64 [] := by
        refine j_iload_n hx 2 dX4_undoTurns_64 rfl ?_
        refine j_if_le hx 82 dX4_undoTurns_65 rfl (by omega) (fun h16 => ?_) (fun h16 => ?_)
        · skip
          refine j_iconst hx dX4_undoTurns_82 ?_
          exact j_iret hx hq rfl (by decide) (by decide) dX4_undoTurns_83 ⟨0, rfl, rfl, hS_s2, (zFr_t zFr_rf hF_s2 (by decide)), (by omega)⟩
        · skip
          refine j_aload_n hx 0 dX4_undoTurns_68 rfl ?_
          refine j_aload_n hx 1 dX4_undoTurns_69 rfl ?_
          refine j_aload_n hx 0 dX4_undoTurns_70 rfl ?_
          have f17 := zf hS_s2 ha (k := 4) rfl
          refine g5_4 hx hG ha kf_RX4_31 rfl dX4_undoTurns_71 ?_
          refine j_iconst hx dX4_undoTurns_74 ?_
          refine j_isub hx (r := (s2 a 4) - 1) dX4_undoTurns_75 (by omega) ?_
          refine j_norm (fun v18 f19 f20 f21 => ?_)
          refine j_callV hx hG (c_X4_goTo hst a b1 v18) lk_RX4_66 ha (by decide) rfl rfl rfl rfl [.ref b1, .int (zI v18)] ⟨rfl, hG, hS_s2, ha, hb1, (by omega)⟩ rfl rfl ⟨by decide, by decide⟩ ⟨by decide, by decide⟩ (k2 := 0) (n2 := 0) rfl rfl (Nat.le_of_ble_eq_true rfl) dX4_undoTurns_76 (kIM (fun v22 s7 hS_s7 hF_s7 q23 => ?_))
          refine j_if_ne hx 84 dX4_undoTurns_79 rfl (by omega) (fun h24 => ?_) (fun h24 => ?_)
          · skip
            refine j_iload hx 3 dX4_undoTurns_84 rfl ?_
            refine j_aload_n hx 1 dX4_undoTurns_86 rfl ?_
            have f25 := zf hS_s7 hb1 (k := 10) rfl
            refine gN4_10 hx hG hb1 kf_RX4_46 rfl dX4_undoTurns_87 ?_
            refine j_isub hx (r := v11 - (s7 b1 10)) dX4_undoTurns_90 (by omega) ?_
            refine j_norm (fun v26 f27 f28 f29 => ?_)
            refine j_istore hx [(5, .int (zI v26)), (0, .ref a), (1, .ref b1), (3, .int (zI v7)), (4, .int (zI v11))] dX4_undoTurns_91 (by decide) rfl ?_
            refine j_iconst hx dX4_undoTurns_93 ?_
            refine j_istore hx [(6, .int (zI 0)), (5, .int (zI v26)), (0, .ref a), (1, .ref b1), (3, .int (zI v7)), (4, .int (zI v11))] dX4_undoTurns_94 (by decide) rfl ?_
            have c96_8 : ∀ (m_c96_8 : Nat) (v30 : Int) (s9 : zS), 2147483648 - v30 < m_c96_8 → (0 ≤ v30 ∧ v30 ≤ 2147483647) → (zSK G s9) → (zFr [1, 4, 7, 41, 50, 51, 52] G s7 s9) → JJ X E 7 G s9 0 0 [(1, .ref b1), (3, .int (zI v7)), (5, .int (zI v26)), (6, .int (zI v30))] 96 [] := by
              intro m_c96_8
              induction m_c96_8 with
              | zero => intro v30 s9 hm_c96_8 fA10 hS_s9 hF_s9; exfalso; omega
              | succ m_c96_8 ih_c96_8 => 
                intro v30 s9 hm_c96_8 fA10 hS_s9 hF_s9
                refine j_iload hx 3 dX4_undoTurns_96 rfl ?_
                refine j_iload hx 2 dX4_undoTurns_98 rfl ?_
                refine j_icmp_ge hx 114 dX4_undoTurns_100 rfl (by omega) (by omega) (fun h31 => ?_) (fun h31 => ?_)
                · skip
                  refine j_aload_n hx 0 dX4_undoTurns_114 rfl ?_
                  refine j_iconst hx dX4_undoTurns_115 ?_
                  refine pN4_7 hx hG hb1 kf_RX4_70 (by omega) dX4_undoTurns_116 ?_
                  obtain ⟨s13, e_s13⟩ : ∃ z, z = zU s9 b1 7 0 := ⟨_, rfl⟩
                  rw [← e_s13]
                  have hS_s13 : zSK G s13 := by rw [e_s13]; exact zSK_F hS_s9 hb1 rfl rfl rfl (by omega)
                  refine j_iload_n hx 1 dX4_undoTurns_119 rfl ?_
                  exact j_iret hx hq rfl (by decide) (by decide) dX4_undoTurns_120 ⟨v7, rfl, rfl, hS_s13, (zFr_u (zFr_t (zFr_t (zFr_t zFr_rf hF_s2 (by decide)) hF_s7 (by decide)) hF_s9 (by decide)) e_s13 hb1 (by decide)), (by omega)⟩
                · skip
                  refine j_aload_n hx 0 dX4_undoTurns_103 rfl ?_
                  refine j_callV hx hG (c_X3_playTurn hst b1) lk_RX4_42 hb1 (by decide) rfl rfl rfl rfl [] ⟨rfl, hG, hS_s9, hb1⟩ rfl rfl ⟨by decide, by decide⟩ ⟨by decide, by decide⟩ (k2 := 0) (n2 := 0) rfl rfl (Nat.le_of_ble_eq_true rfl) dX4_undoTurns_104 (kIM (fun v32 s14 hS_s14 hF_s14 q33 => ?_))
                  refine j_pop hx dX4_undoTurns_107 rfl ?_
                  refine j_iinc hx 3 [(6, .int (zI (v30 + 1))), (1, .ref b1), (3, .int (zI v7)), (5, .int (zI v26))] dX4_undoTurns_108 rfl (by omega) (by decide) rfl ?_
                  refine j_goto hx 96 dX4_undoTurns_111 rfl ?_
                  exact j_sub [1, 2, 3, 0] [(1, .ref b1), (3, .int (zI v7)), (5, .int (zI v26)), (6, .int (zI (v30 + 1)))] rfl (ih_c96_8 (v30 + 1) s14 (by omega) (by omega) hS_s14 (zFr_t (zFr_t zFr_rf hF_s9 (by decide)) hF_s14 (by decide)))
            exact j_sub [3, 4, 1, 0] [(1, .ref b1), (3, .int (zI v7)), (5, .int (zI v26)), (6, .int (zI 0))] rfl (c96_8 (2147483648 * 4) 0 s7 (by omega) (by omega) hS_s7 zFr_rf)
          · skip
            refine j_iconst hx dX4_undoTurns_82 ?_
            exact j_iret hx hq rfl (by decide) (by decide) dX4_undoTurns_83 ⟨0, rfl, rfl, hS_s7, (zFr_t (zFr_t zFr_rf hF_s2 (by decide)) hF_s7 (by decide)), (by omega)⟩
      refine j_icmp_ge hx 64 dX4_undoTurns_30 rfl (by omega) ⟨by decide, by decide⟩ (fun h34 => ?_) (fun h34 => ?_)
      · skip
        exact j_sub [0, 1, 2, 3] [(0, .ref a), (1, .ref b1), (3, .int (zI v7)), (4, .int (zI v11))] rfl (c64_6  )
      · skip
        refine j_aload_n hx 0 dX4_undoTurns_33 rfl ?_
        refine j_aload_n hx 0 dX4_undoTurns_34 rfl ?_
        have f35 := zf hS_s2 ha (k := 4) rfl
        refine g5_4 hx hG ha kf_RX4_31 rfl dX4_undoTurns_35 ?_
        refine j_iconst hx dX4_undoTurns_38 ?_
        refine j_isub hx (r := (s2 a 4) - 1) dX4_undoTurns_39 (by omega) ?_
        refine j_norm (fun v36 f37 f38 f39 => ?_)
        refine j_callV hx hG (c_X4_turnOfMark hst a v36) lk_RX4_63 ha (by decide) rfl rfl rfl rfl [.int (zI v36)] ⟨rfl, hG, hS_s2, ha, (by omega)⟩ rfl rfl ⟨by decide, by decide⟩ ⟨by decide, by decide⟩ (k2 := 0) (n2 := 0) rfl rfl (Nat.le_of_ble_eq_true rfl) dX4_undoTurns_40 (kIP (fun v40 q41 => ?_))
        refine j_iload hx 3 dX4_undoTurns_43 rfl ?_
        refine j_icmp_le hx 64 dX4_undoTurns_45 rfl (by omega) (by omega) (fun h42 => ?_) (fun h42 => ?_)
        · skip
          exact j_sub [0, 1, 2, 3] [(0, .ref a), (1, .ref b1), (3, .int (zI v7)), (4, .int (zI v11))] rfl (c64_6  )
        · skip
          refine j_aload_n hx 0 dX4_undoTurns_48 rfl ?_
          refine j_dup hx dX4_undoTurns_49 rfl ?_
          refine g5_4 hx hG ha kf_RX4_31 rfl dX4_undoTurns_50 ?_
          refine j_iconst hx dX4_undoTurns_53 ?_
          refine j_isub hx (r := (s2 a 4) - 1) dX4_undoTurns_54 (by omega) ?_
          refine j_norm (fun v43 f44 f45 f46 => ?_)
          refine p5_4 hx hG ha kf_RX4_31 dX4_undoTurns_55 ?_
          obtain ⟨s15, e_s15⟩ : ∃ z, z = zU s2 a 4 v43 := ⟨_, rfl⟩
          rw [← e_s15]
          have hS_s15 : zSK G s15 := by rw [e_s15]; exact zSK_F hS_s2 ha rfl rfl rfl (by omega)
          refine j_iinc hx 4 [(5, .int (zI (v15 + 1))), (0, .ref a), (1, .ref b1), (3, .int (zI v7)), (4, .int (zI v11))] dX4_undoTurns_58 rfl (by omega) (by decide) rfl ?_
          refine j_goto hx 25 dX4_undoTurns_61 rfl ?_
          exact j_sub [1, 2, 3, 4, 0] [(0, .ref a), (1, .ref b1), (3, .int (zI v7)), (4, .int (zI v11)), (5, .int (zI (v15 + 1)))] rfl (ih_c25_1 (v15 + 1) s15 (by omega) (by omega) hS_s15 (zFr_u (zFr_t zFr_rf hF_s2 (by decide)) e_s15 ha (by decide)))
  exact j_sub [3, 4, 2, 1, 0] [(0, .ref a), (1, .ref b1), (3, .int (zI v7)), (4, .int (zI v11)), (5, .int (zI 0))] rfl (c25_1 (2147483648 * 4) 0 s0 (by omega) (by omega) hS0 zFr_rf)

theorem lk_RX11_228 : LkV RX11 228 RX4 yX4_undoTurns cX4_undoTurns 7 (some .int) 2 := ⟨km_RX11_228, ki_yX4_undoTurns, ks_RX4_yX4_undoTurns, kn_RX4, kc_yX4_undoTurns, rfl, by decide +kernel, by decide +kernel, by decide +kernel⟩
set_option maxHeartbeats 4000000 in
set_option maxRecDepth 20000 in
theorem c_X11_undo {E : zE} {l : Launch} (hst : l.stackTraces = false) (a : Nat) (x1 : Int) : ConX E l yX11_undo cX11_undo 2 (some .int) { frames := 7, cells := 1, slots := 6, locals := 169 } (fun G s vs => vs = [.ref a, .int (zI x1)] ∧ zGK G ∧ zSK G s ∧ (gT G a = 12) ∧ ((-2147483648) ≤ x1 ∧ x1 ≤ 2147483647)) (fun G s _ => pI (fun r G2 s2 => G2 = G ∧ zSK G s2 ∧ zFr [1, 4, 5, 7, 41, 50, 51, 52] G s s2 ∧ ((-2147483648) ≤ r ∧ r ≤ 2147483647))) (fun G s _ Ex G2 s2 => G2 = G ∧ zSK G s2 ∧ zFr [1, 4, 5, 7, 12, 41, 50, 51, 52] G s s2 ∧ ((Ex = "java/lang/IllegalArgumentException" ∧ (True)))) := by
  refine ConX.mk hst (by decide) (fun G s vs h => by rw [h.1]; exact Nat.le_of_ble_eq_true rfl) ?_
  rintro X G s0 vs ⟨rfl, hG, hS0, ha, hx1⟩ rfl hx hq
  show JJ X E 2 G s0 0 0 [(0, .ref a), (1, .int (zI x1))] 0 []
  refine j_aload_n hx 0 dX11_undo_0 rfl ?_
  refine j_iload_n hx 1 dX11_undo_1 rfl ?_
  refine j_iconst hx dX11_undo_2 ?_
  refine j_sipush hx dX11_undo_3 rfl ?_
  refine j_callVX hx hq hG (c_X11_needRange hst a x1 1 999) lk_RX11_98 ha (by decide) rfl rfl rfl rfl [.int (zI x1), .int (zI 1), .int (zI 999)] ⟨rfl, hG, hS0, ha, (by omega), (by omega), (by omega)⟩ rfl rfl ⟨by decide, by decide⟩ ⟨by decide, by decide⟩ (k2 := 1) (n2 := 6) rfl rfl (Nat.le_of_ble_eq_true rfl) ⟨by decide, by decide⟩ dX11_undo_6 (by rintro Ex9 G9 s9 ⟨rfl, hS9, hF9, e9, c9⟩; exact ⟨rfl, hS9, (zFr_t zFr_rf hF9 (by decide)), ⟨e9, by first | trivial | omega⟩⟩) (kVP (fun q2 => ?_))
  refine j_aload_n hx 0 dX11_undo_9 rfl ?_
  refine g12_9 hx hG ha kf_RX11_69 dX11_undo_10 ?_
  refine j_aload_n hx 0 dX11_undo_13 rfl ?_
  refine g12_6 hx hG ha kf_RX11_48 dX11_undo_14 ?_
  refine j_iload_n hx 1 dX11_undo_17 rfl ?_
  refine j_callV hx hG (c_X4_undoTurns hst (gP G a 9) (gP G a 6) x1) lk_RX11_228 (zr (k := 9) (t2 := 5) hG ha rfl) (by decide) rfl rfl rfl rfl [.ref (gP G a 6), .int (zI x1)] ⟨rfl, hG, hS0, (zr (k := 9) (t2 := 5) hG ha rfl), (zr (k := 6) (t2 := 4) hG ha rfl), (by omega)⟩ rfl rfl ⟨by decide, by decide⟩ ⟨by decide, by decide⟩ (k2 := 1) (n2 := 6) rfl rfl (Nat.le_of_ble_eq_true rfl) dX11_undo_18 (kIM (fun v3 s1 hS_s1 hF_s1 q4 => ?_))
  exact j_iret hx hq.r rfl (by decide) (by decide) dX11_undo_21 ⟨v3, rfl, rfl, hS_s1, (zFr_t zFr_rf hF_s1 (by decide)), (by omega)⟩

theorem lk_RX11_231 : LkV RX11 231 RX3 yX3_lastOf cX3_lastOf 2 (some .int) 1 := ⟨km_RX11_231, ki_yX3_lastOf, ks_RX3_yX3_lastOf, kn_RX3, kc_yX3_lastOf, rfl, by decide +kernel, by decide +kernel, by decide +kernel⟩
set_option maxHeartbeats 4000000 in
set_option maxRecDepth 20000 in
theorem c_X11_latest {E : zE} {l : Launch} (hst : l.stackTraces = false) (a : Nat) (x1 : Int) : ConX E l yX11_latest cX11_latest 2 (some .int) { frames := 7, cells := 1, slots := 6, locals := 113 } (fun G s vs => vs = [.ref a, .int (zI x1)] ∧ zGK G ∧ zSK G s ∧ (gT G a = 12) ∧ ((-2147483648) ≤ x1 ∧ x1 ≤ 2147483647)) (fun G s _ => pI (fun r G2 s2 => G2 = G ∧ s2 = s ∧ ((-2147483648) ≤ r ∧ r ≤ 2147483647))) (fun G s _ Ex G2 s2 => G2 = G ∧ zSK G s2 ∧ zFr [12] G s s2 ∧ ((Ex = "java/lang/IllegalArgumentException" ∧ (True)))) := by
  refine ConX.mk hst (by decide) (fun G s vs h => by rw [h.1]; exact Nat.le_of_ble_eq_true rfl) ?_
  rintro X G s0 vs ⟨rfl, hG, hS0, ha, hx1⟩ rfl hx hq
  show JJ X E 2 G s0 0 0 [(0, .ref a), (1, .int (zI x1))] 0 []
  refine j_aload_n hx 0 dX11_latest_0 rfl ?_
  refine j_iload_n hx 1 dX11_latest_1 rfl ?_
  refine j_iconst hx dX11_latest_2 ?_
  refine j_iconst hx dX11_latest_3 ?_
  refine j_callVX hx hq hG (c_X11_needRange hst a x1 0 4) lk_RX11_98 ha (by decide) rfl rfl rfl rfl [.int (zI x1), .int (zI 0), .int (zI 4)] ⟨rfl, hG, hS0, ha, (by omega), (by omega), (by omega)⟩ rfl rfl ⟨by decide, by decide⟩ ⟨by decide, by decide⟩ (k2 := 1) (n2 := 6) rfl rfl (Nat.le_of_ble_eq_true rfl) ⟨by decide, by decide⟩ dX11_latest_4 (by rintro Ex9 G9 s9 ⟨rfl, hS9, hF9, e9, c9⟩; exact ⟨rfl, hS9, (zFr_t zFr_rf hF9 (by decide)), ⟨e9, by first | trivial | omega⟩⟩) (kVP (fun q2 => ?_))
  refine j_aload_n hx 0 dX11_latest_7 rfl ?_
  refine g12_6 hx hG ha kf_RX11_48 dX11_latest_8 ?_
  refine j_iload_n hx 1 dX11_latest_11 rfl ?_
  refine j_callV hx hG (c_X3_lastOf hst (gP G a 6) x1) lk_RX11_231 (zr (k := 6) (t2 := 4) hG ha rfl) (by decide) rfl rfl rfl rfl [.int (zI x1)] ⟨rfl, hG, hS0, (zr (k := 6) (t2 := 4) hG ha rfl), (by omega)⟩ rfl rfl ⟨by decide, by decide⟩ ⟨by decide, by decide⟩ (k2 := 1) (n2 := 6) rfl rfl (Nat.le_of_ble_eq_true rfl) dX11_latest_12 (kIP (fun v3 q4 => ?_))
  exact j_iret hx hq.r rfl (by decide) (by decide) dX11_latest_15 ⟨v3, rfl, rfl, rfl, (by omega)⟩

theorem lk_RX11_234 : LkV RX11 234 RX3 yX3_tallyOf cX3_tallyOf 2 (some .int) 1 := ⟨km_RX11_234, ki_yX3_tallyOf, ks_RX3_yX3_tallyOf, kn_RX3, kc_yX3_tallyOf, rfl, by decide +kernel, by decide +kernel, by decide +kernel⟩
set_option maxHeartbeats 4000000 in
set_option maxRecDepth 20000 in
theorem c_X11_calls {E : zE} {l : Launch} (hst : l.stackTraces = false) (a : Nat) (x1 : Int) (x2 : Int) : ConX E l yX11_calls cX11_calls 3 (some .int) { frames := 7, cells := 2, slots := 12, locals := 113 } (fun G s vs => vs = [.ref a, .int (zI x1), .int (zI x2)] ∧ zGK G ∧ zSK G s ∧ (gT G a = 12) ∧ ((-2147483648) ≤ x1 ∧ x1 ≤ 2147483647) ∧ ((-2147483648) ≤ x2 ∧ x2 ≤ 2147483647)) (fun G s _ => pI (fun r G2 s2 => G2 = G ∧ s2 = s ∧ ((-2147483648) ≤ r ∧ r ≤ 2147483647))) (fun G s _ Ex G2 s2 => G2 = G ∧ zSK G s2 ∧ zFr [12] G s s2 ∧ ((Ex = "java/lang/IllegalArgumentException" ∧ (True)) ∨ (Ex = "java/util/NoSuchElementException" ∧ (True)))) := by
  refine ConX.mk hst (by decide) (fun G s vs h => by rw [h.1]; exact Nat.le_of_ble_eq_true rfl) ?_
  rintro X G s0 vs ⟨rfl, hG, hS0, ha, hx1, hx2⟩ rfl hx hq
  show JJ X E 3 G s0 0 0 [(0, .ref a), (1, .int (zI x1)), (2, .int (zI x2))] 0 []
  refine j_aload_n hx 0 dX11_calls_0 rfl ?_
  refine j_iload_n hx 1 dX11_calls_1 rfl ?_
  refine j_callVX hx hq hG (c_X11_needPlayer hst a x1) lk_RX11_134 ha (by decide) rfl rfl rfl rfl [.int (zI x1)] ⟨rfl, hG, hS0, ha, (by omega)⟩ rfl rfl ⟨by decide, by decide⟩ ⟨by decide, by decide⟩ (k2 := 1) (n2 := 6) rfl rfl (Nat.le_of_ble_eq_true rfl) ⟨by decide, by decide⟩ dX11_calls_2 (by rintro Ex9 G9 s9 ⟨rfl, hS9, hF9, e9, c9⟩; exact ⟨rfl, hS9, (zFr_t zFr_rf hF9 (by decide)), Or.inr ⟨e9, by first | trivial | omega⟩⟩) (kVP (fun q2 => ?_))
  refine j_aload_n hx 0 dX11_calls_5 rfl ?_
  refine j_iload_n hx 2 dX11_calls_6 rfl ?_
  refine j_iconst hx dX11_calls_7 ?_
  refine j_iconst hx dX11_calls_8 ?_
  refine j_callVX hx hq hG (c_X11_needRange hst a x2 0 5) lk_RX11_98 ha (by decide) rfl rfl rfl rfl [.int (zI x2), .int (zI 0), .int (zI 5)] ⟨rfl, hG, hS0, ha, (by omega), (by omega), (by omega)⟩ rfl rfl ⟨by decide, by decide⟩ ⟨by decide, by decide⟩ (k2 := 2) (n2 := 12) rfl rfl (Nat.le_of_ble_eq_true rfl) ⟨by decide, by decide⟩ dX11_calls_9 (by rintro Ex9 G9 s9 ⟨rfl, hS9, hF9, e9, c9⟩; exact ⟨rfl, hS9, (zFr_t zFr_rf hF9 (by decide)), Or.inl ⟨e9, by first | trivial | omega⟩⟩) (kVP (fun q4 => ?_))
  refine j_aload_n hx 0 dX11_calls_12 rfl ?_
  refine g12_6 hx hG ha kf_RX11_48 dX11_calls_13 ?_
  refine j_iload_n hx 1 dX11_calls_16 rfl ?_
  refine j_bipush hx dX11_calls_17 rfl ?_
  refine j_imul hx (r := 6 * x1) dX11_calls_19 (by omega) ?_
  refine j_norm (fun v5 f6 f7 f8 => ?_)
  refine j_iload_n hx 2 dX11_calls_20 rfl ?_
  refine j_iadd hx (r := v5 + x2) dX11_calls_21 rfl ?_
  refine j_norm (fun v9 f10 f11 f12 => ?_)
  refine j_callV hx hG (c_X3_tallyOf hst (gP G a 6) v9) lk_RX11_234 (zr (k := 6) (t2 := 4) hG ha rfl) (by decide) rfl rfl rfl rfl [.int (zI v9)] ⟨rfl, hG, hS0, (zr (k := 6) (t2 := 4) hG ha rfl), (by omega)⟩ rfl rfl ⟨by decide, by decide⟩ ⟨by decide, by decide⟩ (k2 := 2) (n2 := 12) rfl rfl (Nat.le_of_ble_eq_true rfl) dX11_calls_22 (kIP (fun v13 q14 => ?_))
  exact j_iret hx hq.r rfl (by decide) (by decide) dX11_calls_25 ⟨v13, rfl, rfl, rfl, (by omega)⟩

set_option maxHeartbeats 4000000 in
set_option maxRecDepth 20000 in
theorem c_X11_won {E : zE} {l : Launch} (hst : l.stackTraces = false) (a : Nat) (x1 : Int) : ConX E l yX11_won cX11_won 2 (some .int) { frames := 7, cells := 1, slots := 6, locals := 111 } (fun G s vs => vs = [.ref a, .int (zI x1)] ∧ zGK G ∧ zSK G s ∧ (gT G a = 12) ∧ ((-2147483648) ≤ x1 ∧ x1 ≤ 2147483647)) (fun G s _ => pI (fun r G2 s2 => G2 = G ∧ s2 = s ∧ ((-2147483648) ≤ r ∧ r ≤ 2147483647))) (fun G s _ Ex G2 s2 => G2 = G ∧ zSK G s2 ∧ zFr [12] G s s2 ∧ ((Ex = "java/util/NoSuchElementException" ∧ (True)))) := by
  refine ConX.mk hst (by decide) (fun G s vs h => by rw [h.1]; exact Nat.le_of_ble_eq_true rfl) ?_
  rintro X G s0 vs ⟨rfl, hG, hS0, ha, hx1⟩ rfl hx hq
  show JJ X E 2 G s0 0 0 [(0, .ref a), (1, .int (zI x1))] 0 []
  refine j_aload_n hx 0 dX11_won_0 rfl ?_
  refine j_iload_n hx 1 dX11_won_1 rfl ?_
  refine j_callVX hx hq hG (c_X11_needPlayer hst a x1) lk_RX11_134 ha (by decide) rfl rfl rfl rfl [.int (zI x1)] ⟨rfl, hG, hS0, ha, (by omega)⟩ rfl rfl ⟨by decide, by decide⟩ ⟨by decide, by decide⟩ (k2 := 1) (n2 := 6) rfl rfl (Nat.le_of_ble_eq_true rfl) ⟨by decide, by decide⟩ dX11_won_2 (by rintro Ex9 G9 s9 ⟨rfl, hS9, hF9, e9, c9⟩; exact ⟨rfl, hS9, (zFr_t zFr_rf hF9 (by decide)), ⟨e9, by first | trivial | omega⟩⟩) (kVP (fun q2 => ?_))
  refine j_aload_n hx 0 dX11_won_5 rfl ?_
  refine g12_6 hx hG ha kf_RX11_48 dX11_won_6 ?_
  refine j_bipush hx dX11_won_9 rfl ?_
  refine j_iload_n hx 1 dX11_won_11 rfl ?_
  refine j_iadd hx (r := x1 + 18) dX11_won_12 (by omega) ?_
  refine j_norm (fun v3 f4 f5 f6 => ?_)
  refine j_callV hx hG (c_X3_tallyOf hst (gP G a 6) v3) lk_RX11_234 (zr (k := 6) (t2 := 4) hG ha rfl) (by decide) rfl rfl rfl rfl [.int (zI v3)] ⟨rfl, hG, hS0, (zr (k := 6) (t2 := 4) hG ha rfl), (by omega)⟩ rfl rfl ⟨by decide, by decide⟩ ⟨by decide, by decide⟩ (k2 := 1) (n2 := 6) rfl rfl (Nat.le_of_ble_eq_true rfl) dX11_won_13 (kIP (fun v7 q8 => ?_))
  exact j_iret hx hq.r rfl (by decide) (by decide) dX11_won_16 ⟨v7, rfl, rfl, rfl, (by omega)⟩

set_option maxHeartbeats 4000000 in
set_option maxRecDepth 20000 in
theorem c_X3_become {E : zE} {l : Launch} (hst : l.stackTraces = false) (a : Nat) (b1 : Nat) : Con E l yX3_become cX3_become 3 none { frames := 3, cells := 0, slots := 0, locals := 65 } (fun G s vs => vs = [.ref a, .ref b1] ∧ zGK G ∧ zSK G s ∧ (gT G a = 4) ∧ (gT G b1 = 4)) (fun G s _ => pV (fun G2 s2 => G2 = G ∧ zSK G s2 ∧ zFr [1, 4, 7, 41, 44, 49, 50] G s s2 ∧ True)) := by
  refine Con.mk hst (by decide) (fun G s vs h => by rw [h.1]; exact Nat.le_of_ble_eq_true rfl) ?_
  rintro X G s0 vs ⟨rfl, hG, hS0, ha, hb1⟩ rfl hx hq
  show JJ X E 3 G s0 0 0 [(0, .ref a), (1, .ref b1)] 0 []
  refine j_aload_n hx 0 dX3_become_0 rfl ?_
  refine g4_1 hx hG ha kf_RX3_14 dX3_become_1 ?_
  refine j_aload_n hx 1 dX3_become_4 rfl ?_
  refine g4_1 hx hG hb1 kf_RX3_14 dX3_become_5 ?_
  refine j_callV hx hG (c_X0_become hst (gP G a 1) (gP G b1 1)) lk_RX3_50 (zr (k := 1) (t2 := 1) hG ha rfl) (by decide) rfl rfl rfl rfl [.ref (gP G b1 1)] ⟨rfl, hG, hS0, (zr (k := 1) (t2 := 1) hG ha rfl), (zr (k := 1) (t2 := 1) hG hb1 rfl)⟩ rfl rfl ⟨by decide, by decide⟩ ⟨by decide, by decide⟩ (k2 := 0) (n2 := 0) rfl rfl (Nat.le_of_ble_eq_true rfl) dX3_become_8 (kVM (fun s1 hS_s1 hF_s1 q2 => ?_))
  refine j_iconst hx dX3_become_11 ?_
  refine j_istore_n hx [(2, .int (zI 0)), (0, .ref a), (1, .ref b1)] dX3_become_12 (by decide) rfl ?_
  have c13_2 : ∀ (m_c13_2 : Nat) (v3 : Int) (s3 : zS), 2147483648 - v3 < m_c13_2 → (0 ≤ v3 ∧ v3 ≤ 3) → (zSK G s3) → (zFr [44] G s1 s3) → JJ X E 3 G s3 0 0 [(0, .ref a), (1, .ref b1), (2, .int (zI v3))] 13 [] := by
    intro m_c13_2
    induction m_c13_2 with
    | zero => intro v3 s3 hm_c13_2 fA4 hS_s3 hF_s3; exfalso; omega
    | succ m_c13_2 ih_c13_2 => 
      intro v3 s3 hm_c13_2 fA4 hS_s3 hF_s3
      refine j_iload_n hx 2 dX3_become_13 rfl ?_
      refine j_aload_n hx 0 dX3_become_14 rfl ?_
      refine g4_2 hx hG ha kf_RX3_18 dX3_become_15 ?_
      refine j_alen hx hG (zr (k := 2) (t2 := 44) hG ha rfl) (by decide) (by decide) (zlen hG (zr (k := 2) (t2 := 44) hG ha rfl) (n := 3) rfl rfl) dX3_become_18 ?_
      refine j_icmp_ge hx 49 dX3_become_19 rfl (by omega) ⟨by decide, by decide⟩ (fun h4 => ?_) (fun h4 => ?_)
      · skip
        refine j_iconst hx dX3_become_49 ?_
        refine j_istore_n hx [(2, .int (zI 0)), (0, .ref a), (1, .ref b1)] dX3_become_50 (by decide) rfl ?_
        have c51_7 : ∀ (m_c51_7 : Nat) (v5 : Int) (s8 : zS), 2147483648 - v5 < m_c51_7 → (0 ≤ v5 ∧ v5 ≤ 6) → (zSK G s8) → (zFr [49] G s3 s8) → JJ X E 3 G s8 0 0 [(0, .ref a), (1, .ref b1), (2, .int (zI v5))] 51 [] := by
          intro m_c51_7
          induction m_c51_7 with
          | zero => intro v5 s8 hm_c51_7 fA9 hS_s8 hF_s8; exfalso; omega
          | succ m_c51_7 ih_c51_7 => 
            intro v5 s8 hm_c51_7 fA9 hS_s8 hF_s8
            refine j_iload_n hx 2 dX3_become_51 rfl ?_
            refine j_aload_n hx 0 dX3_become_52 rfl ?_
            refine g4_3 hx hG ha kf_RX3_24 dX3_become_53 ?_
            refine j_alen hx hG (zr (k := 3) (t2 := 49) hG ha rfl) (by decide) (by decide) (zlen hG (zr (k := 3) (t2 := 49) hG ha rfl) (n := 6) rfl rfl) dX3_become_56 ?_
            refine j_icmp_ge hx 87 dX3_become_57 rfl (by omega) ⟨by decide, by decide⟩ (fun h6 => ?_) (fun h6 => ?_)
            · skip
              refine j_iconst hx dX3_become_87 ?_
              refine j_istore_n hx [(2, .int (zI 0)), (0, .ref a), (1, .ref b1)] dX3_become_88 (by decide) rfl ?_
              have c89_12 : ∀ (m_c89_12 : Nat) (v7 : Int) (s13 : zS), 2147483648 - v7 < m_c89_12 → (0 ≤ v7 ∧ v7 ≤ 21) → (zSK G s13) → (zFr [50] G s8 s13) → JJ X E 3 G s13 0 0 [(0, .ref a), (1, .ref b1), (2, .int (zI v7))] 89 [] := by
                intro m_c89_12
                induction m_c89_12 with
                | zero => intro v7 s13 hm_c89_12 fA14 hS_s13 hF_s13; exfalso; omega
                | succ m_c89_12 ih_c89_12 => 
                  intro v7 s13 hm_c89_12 fA14 hS_s13 hF_s13
                  refine j_iload_n hx 2 dX3_become_89 rfl ?_
                  refine j_aload_n hx 0 dX3_become_90 rfl ?_
                  refine g4_4 hx hG ha kf_RX3_28 dX3_become_91 ?_
                  refine j_alen hx hG (zr (k := 4) (t2 := 50) hG ha rfl) (by decide) (by decide) (zlen hG (zr (k := 4) (t2 := 50) hG ha rfl) (n := 21) rfl rfl) dX3_become_94 ?_
                  refine j_icmp_ge hx 125 dX3_become_95 rfl (by omega) ⟨by decide, by decide⟩ (fun h8 => ?_) (fun h8 => ?_)
                  · skip
                    refine j_aload_n hx 0 dX3_become_125 rfl ?_
                    refine j_iconst hx dX3_become_126 ?_
                    refine p4_7 hx hG ha kf_RX3_61 (by omega) dX3_become_127 ?_
                    obtain ⟨s17, e_s17⟩ : ∃ z, z = zU s13 a 7 0 := ⟨_, rfl⟩
                    rw [← e_s17]
                    have hS_s17 : zSK G s17 := by rw [e_s17]; exact zSK_F hS_s13 ha rfl rfl rfl (by omega)
                    refine j_aload_n hx 0 dX3_become_130 rfl ?_
                    refine j_aload_n hx 1 dX3_become_131 rfl ?_
                    have f9 := zf hS_s17 hb1 (k := 8) rfl
                    refine g4_8 hx hG hb1 kf_RX3_65 rfl dX3_become_132 ?_
                    refine p4_8 hx hG ha kf_RX3_65 (by omega) dX3_become_135 ?_
                    obtain ⟨s18, e_s18⟩ : ∃ z, z = zU s17 a 8 ((s17 b1 8)) := ⟨_, rfl⟩
                    rw [← e_s18]
                    have hS_s18 : zSK G s18 := by rw [e_s18]; exact zSK_F hS_s17 ha rfl rfl rfl (by omega)
                    refine j_aload_n hx 0 dX3_become_138 rfl ?_
                    refine j_aload_n hx 1 dX3_become_139 rfl ?_
                    have f10 := zf hS_s18 hb1 (k := 9) rfl
                    refine g4_9 hx hG hb1 kf_RX3_68 rfl dX3_become_140 ?_
                    refine p4_9 hx hG ha kf_RX3_68 dX3_become_143 ?_
                    obtain ⟨s19, e_s19⟩ : ∃ z, z = zU s18 a 9 ((s18 b1 9)) := ⟨_, rfl⟩
                    rw [← e_s19]
                    have hS_s19 : zSK G s19 := by rw [e_s19]; exact zSK_F hS_s18 ha rfl rfl rfl (by omega)
                    refine j_aload_n hx 0 dX3_become_146 rfl ?_
                    refine j_aload_n hx 1 dX3_become_147 rfl ?_
                    have f11 := zf hS_s19 hb1 (k := 10) rfl
                    refine g4_10 hx hG hb1 kf_RX3_71 rfl dX3_become_148 ?_
                    refine p4_10 hx hG ha kf_RX3_71 dX3_become_151 ?_
                    obtain ⟨s20, e_s20⟩ : ∃ z, z = zU s19 a 10 ((s19 b1 10)) := ⟨_, rfl⟩
                    rw [← e_s20]
                    have hS_s20 : zSK G s20 := by rw [e_s20]; exact zSK_F hS_s19 ha rfl rfl rfl (by omega)
                    exact j_vret hx hq rfl (by decide) (by decide) dX3_become_154 ⟨rfl, rfl, hS_s20, (zFr_u (zFr_u (zFr_u (zFr_u (zFr_t (zFr_t (zFr_t (zFr_t zFr_rf hF_s1 (by decide)) hF_s3 (by decide)) hF_s8 (by decide)) hF_s13 (by decide)) e_s17 ha (by decide)) e_s18 ha (by decide)) e_s19 ha (by decide)) e_s20 ha (by decide)), trivial⟩
                  · skip
                    refine j_iload_n hx 2 dX3_become_98 rfl ?_
                    refine j_aload_n hx 1 dX3_become_99 rfl ?_
                    refine g4_4 hx hG hb1 kf_RX3_28 dX3_become_100 ?_
                    refine j_alen hx hG (zr (k := 4) (t2 := 50) hG hb1 rfl) (by decide) (by decide) (zlen hG (zr (k := 4) (t2 := 50) hG hb1 rfl) (n := 21) rfl rfl) dX3_become_103 ?_
                    refine j_icmp_ge hx 125 dX3_become_104 rfl (by omega) ⟨by decide, by decide⟩ (fun h12 => absurd h12 (by omega)) (fun h12 => ?_)
                    refine j_aload_n hx 0 dX3_become_107 rfl ?_
                    refine g4_4 hx hG ha kf_RX3_28 dX3_become_108 ?_
                    refine j_iload_n hx 2 dX3_become_111 rfl ?_
                    refine j_aload_n hx 1 dX3_become_112 rfl ?_
                    refine g4_4 hx hG hb1 kf_RX3_28 dX3_become_113 ?_
                    refine j_iload_n hx 2 dX3_become_116 rfl ?_
                    have f13 := zaI (j := (v7).toNat) hS_s13 (zr (k := 4) (t2 := 50) hG hb1 rfl) rfl (zlen hG (zr (k := 4) (t2 := 50) hG hb1 rfl) (n := 21) rfl rfl) (show 0 ≤ v7 by omega) (by omega) rfl
                    refine j_iald hx hG (zr (k := 4) (t2 := 50) hG hb1 rfl) (by decide) rfl (zlen hG (zr (k := 4) (t2 := 50) hG hb1 rfl) (n := 21) rfl rfl) (by omega) (by omega) (j := (v7).toNat) rfl rfl dX3_become_117 ?_
                    refine j_iast hx hG (zr (k := 4) (t2 := 50) hG ha rfl) (by decide) rfl (zlen hG (zr (k := 4) (t2 := 50) hG ha rfl) (n := 21) rfl rfl) (by omega) (by omega) (j := (v7).toNat) rfl dX3_become_118 ?_
                    obtain ⟨s21, e_s21⟩ : ∃ z, z = zU s13 (gP G a 4) (v7).toNat ((s13 (gP G b1 4) (v7).toNat)) := ⟨_, rfl⟩
                    rw [← e_s21]
                    have hS_s21 : zSK G s21 := by rw [e_s21]; exact zSK_A hS_s13 (zr (k := 4) (t2 := 50) hG ha rfl) rfl rfl rfl (by omega)
                    refine j_iinc hx 2 [(2, .int (zI (v7 + 1))), (0, .ref a), (1, .ref b1)] dX3_become_119 rfl (by omega) (by decide) rfl ?_
                    refine j_goto hx 89 dX3_become_122 rfl ?_
                    exact j_sub [1, 2, 0] [(0, .ref a), (1, .ref b1), (2, .int (zI (v7 + 1)))] rfl (ih_c89_12 (v7 + 1) s21 (by omega) (by omega) hS_s21 (zFr_u (zFr_t zFr_rf hF_s13 (by decide)) e_s21 (zr (k := 4) (t2 := 50) hG ha rfl) (by decide)))
              exact j_sub [1, 2, 0] [(0, .ref a), (1, .ref b1), (2, .int (zI 0))] rfl (c89_12 (2147483648 * 4) 0 s8 (by omega) (by omega) hS_s8 zFr_rf)
            · skip
              refine j_iload_n hx 2 dX3_become_60 rfl ?_
              refine j_aload_n hx 1 dX3_become_61 rfl ?_
              refine g4_3 hx hG hb1 kf_RX3_24 dX3_become_62 ?_
              refine j_alen hx hG (zr (k := 3) (t2 := 49) hG hb1 rfl) (by decide) (by decide) (zlen hG (zr (k := 3) (t2 := 49) hG hb1 rfl) (n := 6) rfl rfl) dX3_become_65 ?_
              refine j_icmp_ge hx 87 dX3_become_66 rfl (by omega) ⟨by decide, by decide⟩ (fun h14 => absurd h14 (by omega)) (fun h14 => ?_)
              refine j_aload_n hx 0 dX3_become_69 rfl ?_
              refine g4_3 hx hG ha kf_RX3_24 dX3_become_70 ?_
              refine j_iload_n hx 2 dX3_become_73 rfl ?_
              refine j_aload_n hx 1 dX3_become_74 rfl ?_
              refine g4_3 hx hG hb1 kf_RX3_24 dX3_become_75 ?_
              refine j_iload_n hx 2 dX3_become_78 rfl ?_
              refine j_aald hx hG hS_s8 (zr (k := 3) (t2 := 49) hG hb1 rfl) (by decide) (by decide) rfl (zlen hG (zr (k := 3) (t2 := 49) hG hb1 rfl) (n := 6) rfl rfl) (by omega) (by omega) dX3_become_79 (fun h15 => ?_) (fun h16 h17 => ?_)
              · skip
                refine j_aastN hx hG (zr (k := 3) (t2 := 49) hG ha rfl) (by decide) rfl (zlen hG (zr (k := 3) (t2 := 49) hG ha rfl) (n := 6) rfl rfl) (by omega) (by omega) dX3_become_80 ?_
                obtain ⟨s22, e_s22⟩ : ∃ z, z = zU s8 (gP G a 3) (v5).toNat 0 := ⟨_, rfl⟩
                rw [← e_s22]
                have hS_s22 : zSK G s22 := by rw [e_s22]; exact zSK_d hS_s8 (zr (k := 3) (t2 := 49) hG ha rfl) (fun _ => rfl) (fun _ => rfl) rfl (Or.inl rfl)
                refine j_iinc hx 2 [(2, .int (zI (v5 + 1))), (0, .ref a), (1, .ref b1)] dX3_become_81 rfl (by omega) (by decide) rfl ?_
                refine j_goto hx 51 dX3_become_84 rfl ?_
                exact j_sub [1, 2, 0] [(0, .ref a), (1, .ref b1), (2, .int (zI (v5 + 1)))] rfl (ih_c51_7 (v5 + 1) s22 (by omega) (by omega) hS_s22 (zFr_u (zFr_t zFr_rf hF_s8 (by decide)) e_s22 (zr (k := 3) (t2 := 49) hG ha rfl) (by decide)))
              · skip
                refine j_aast6 hx hG (zr (k := 3) (t2 := 49) hG ha rfl) (by decide) rfl h17 (by decide) rfl rfl rfl rfl (zlen hG (zr (k := 3) (t2 := 49) hG ha rfl) (n := 6) rfl rfl) (by omega) (by omega) dX3_become_80 ?_
                obtain ⟨s23, e_s23⟩ : ∃ z, z = zU s8 (gP G a 3) (v5).toNat (((s8 (gP G b1 3) (v5).toNat).toNat - 1 : Int) + 1) := ⟨_, rfl⟩
                rw [← e_s23]
                have hS_s23 : zSK G s23 := by rw [e_s23]; exact zSK_d hS_s8 (zr (k := 3) (t2 := 49) hG ha rfl) (fun _ => rfl) (fun _ => rfl) rfl (zdyn h17)
                refine j_iinc hx 2 [(2, .int (zI (v5 + 1))), (0, .ref a), (1, .ref b1)] dX3_become_81 rfl (by omega) (by decide) rfl ?_
                refine j_goto hx 51 dX3_become_84 rfl ?_
                exact j_sub [1, 2, 0] [(0, .ref a), (1, .ref b1), (2, .int (zI (v5 + 1)))] rfl (ih_c51_7 (v5 + 1) s23 (by omega) (by omega) hS_s23 (zFr_u (zFr_t zFr_rf hF_s8 (by decide)) e_s23 (zr (k := 3) (t2 := 49) hG ha rfl) (by decide)))
        exact j_sub [1, 2, 0] [(0, .ref a), (1, .ref b1), (2, .int (zI 0))] rfl (c51_7 (2147483648 * 4) 0 s3 (by omega) (by omega) hS_s3 zFr_rf)
      · skip
        refine j_iload_n hx 2 dX3_become_22 rfl ?_
        refine j_aload_n hx 1 dX3_become_23 rfl ?_
        refine g4_2 hx hG hb1 kf_RX3_18 dX3_become_24 ?_
        refine j_alen hx hG (zr (k := 2) (t2 := 44) hG hb1 rfl) (by decide) (by decide) (zlen hG (zr (k := 2) (t2 := 44) hG hb1 rfl) (n := 3) rfl rfl) dX3_become_27 ?_
        refine j_icmp_ge hx 49 dX3_become_28 rfl (by omega) ⟨by decide, by decide⟩ (fun h18 => absurd h18 (by omega)) (fun h18 => ?_)
        refine j_aload_n hx 0 dX3_become_31 rfl ?_
        refine g4_2 hx hG ha kf_RX3_18 dX3_become_32 ?_
        refine j_iload_n hx 2 dX3_become_35 rfl ?_
        refine j_aload_n hx 1 dX3_become_36 rfl ?_
        refine g4_2 hx hG hb1 kf_RX3_18 dX3_become_37 ?_
        refine j_iload_n hx 2 dX3_become_40 rfl ?_
        have f19 := zaI (j := (v3).toNat) hS_s3 (zr (k := 2) (t2 := 44) hG hb1 rfl) rfl (zlen hG (zr (k := 2) (t2 := 44) hG hb1 rfl) (n := 3) rfl rfl) (show 0 ≤ v3 by omega) (by omega) rfl
        refine j_iald hx hG (zr (k := 2) (t2 := 44) hG hb1 rfl) (by decide) rfl (zlen hG (zr (k := 2) (t2 := 44) hG hb1 rfl) (n := 3) rfl rfl) (by omega) (by omega) (j := (v3).toNat) rfl rfl dX3_become_41 ?_
        refine j_iast hx hG (zr (k := 2) (t2 := 44) hG ha rfl) (by decide) rfl (zlen hG (zr (k := 2) (t2 := 44) hG ha rfl) (n := 3) rfl rfl) (by omega) (by omega) (j := (v3).toNat) rfl dX3_become_42 ?_
        obtain ⟨s24, e_s24⟩ : ∃ z, z = zU s3 (gP G a 2) (v3).toNat ((s3 (gP G b1 2) (v3).toNat)) := ⟨_, rfl⟩
        rw [← e_s24]
        have hS_s24 : zSK G s24 := by rw [e_s24]; exact zSK_A hS_s3 (zr (k := 2) (t2 := 44) hG ha rfl) rfl rfl rfl (by omega)
        refine j_iinc hx 2 [(2, .int (zI (v3 + 1))), (0, .ref a), (1, .ref b1)] dX3_become_43 rfl (by omega) (by decide) rfl ?_
        refine j_goto hx 13 dX3_become_46 rfl ?_
        exact j_sub [1, 2, 0] [(0, .ref a), (1, .ref b1), (2, .int (zI (v3 + 1)))] rfl (ih_c13_2 (v3 + 1) s24 (by omega) (by omega) hS_s24 (zFr_u (zFr_t zFr_rf hF_s3 (by decide)) e_s24 (zr (k := 2) (t2 := 44) hG ha rfl) (by decide)))
  exact j_sub [1, 2, 0] [(0, .ref a), (1, .ref b1), (2, .int (zI 0))] rfl (c13_2 (2147483648 * 4) 0 s1 (by omega) (by omega) hS_s1 zFr_rf)

theorem lk_RX2_31 : LkV RX2 31 RX3 yX3_become cX3_become 3 none 1 := ⟨km_RX2_31, ki_yX3_become, ks_RX3_yX3_become, kn_RX3, kc_yX3_become, rfl, by decide +kernel, by decide +kernel, by decide +kernel⟩
set_option maxHeartbeats 4000000 in
set_option maxRecDepth 20000 in
theorem c_X2_begin {E : zE} {l : Launch} (hst : l.stackTraces = false) (a : Nat) (b1 : Nat) : Con E l yX2_begin cX2_begin 2 none { frames := 4, cells := 0, slots := 0, locals := 87 } (fun G s vs => vs = [.ref a, .ref b1] ∧ zGK G ∧ zSK G s ∧ (gT G a = 3) ∧ (gT G b1 = 4)) (fun G s _ => pV (fun G2 s2 => G2 = G ∧ zSK G s2 ∧ zFr [1, 4, 7, 41, 44, 49, 50] G s s2 ∧ True)) := by
  refine Con.mk hst (by decide) (fun G s vs h => by rw [h.1]; exact Nat.le_of_ble_eq_true rfl) ?_
  rintro X G s0 vs ⟨rfl, hG, hS0, ha, hb1⟩ rfl hx hq
  show JJ X E 2 G s0 0 0 [(0, .ref a), (1, .ref b1)] 0 []
  refine j_aload_n hx 0 dX2_begin_0 rfl ?_
  refine g3_0 hx hG ha kf_RX2_27 dX2_begin_1 ?_
  refine j_aload_n hx 1 dX2_begin_4 rfl ?_
  refine j_callV hx hG (c_X3_become hst (gP G a 0) b1) lk_RX2_31 (zr (k := 0) (t2 := 4) hG ha rfl) (by decide) rfl rfl rfl rfl [.ref b1] ⟨rfl, hG, hS0, (zr (k := 0) (t2 := 4) hG ha rfl), hb1⟩ rfl rfl ⟨by decide, by decide⟩ ⟨by decide, by decide⟩ (k2 := 0) (n2 := 0) rfl rfl (Nat.le_of_ble_eq_true rfl) dX2_begin_5 (kVM (fun s1 hS_s1 hF_s1 q2 => ?_))
  exact j_vret hx hq rfl (by decide) (by decide) dX2_begin_8 ⟨rfl, rfl, hS_s1, (zFr_t zFr_rf hF_s1 (by decide)), trivial⟩

set_option maxHeartbeats 4000000 in
set_option maxRecDepth 20000 in
theorem c_X11_commonDivisor {E : zE} {l : Launch} (hst : l.stackTraces = false) (y0 : Int) (y1 : Int) : Con E l yX11_commonDivisor cX11_commonDivisor 11 (some .long) { frames := 0, cells := 0, slots := 0, locals := 0 } (fun G s vs => vs = [.long (zL y0), .long (zL y1)] ∧ zGK G ∧ zSK G s ∧ ((-9223372036854775808) ≤ y0 ∧ y0 ≤ 9223372036854775807) ∧ ((-9223372036854775808) ≤ y1 ∧ y1 ≤ 9223372036854775807)) (fun G s _ => pL (fun r G2 s2 => G2 = G ∧ s2 = s ∧ ((-9223372036854775808) ≤ r ∧ r ≤ 9223372036854775807))) := by
  refine Con.mk hst (by decide) (fun G s vs h => by rw [h.1]; exact Nat.le_of_ble_eq_true rfl) ?_
  rintro X G s0 vs ⟨rfl, hG, hS0, hy0, hy1⟩ rfl hx hq
  show JJ X E 11 G s0 0 0 [(0, .long (zL y0)), (2, .long (zL y1))] 0 []
  refine j_lload_n hx 0 dX11_commonDivisor_0 rfl ?_
  refine j_lstore hx [(4, .long (zL y0)), (0, .long (zL y0)), (2, .long (zL y1))] dX11_commonDivisor_1 (by decide) rfl ?_
  refine j_lload_n hx 2 dX11_commonDivisor_3 rfl ?_
  refine j_lstore hx [(6, .long (zL y1)), (4, .long (zL y0)), (0, .long (zL y0)), (2, .long (zL y1))] dX11_commonDivisor_4 (by decide) rfl ?_
  refine j_iconst hx dX11_commonDivisor_6 ?_
  refine j_istore hx [(8, .int (zI 0)), (6, .long (zL y1)), (4, .long (zL y0)), (0, .long (zL y0)), (2, .long (zL y1))] dX11_commonDivisor_7 (by decide) rfl ?_
  have c9_1 : ∀ (m_c9_1 : Nat) (w1 : Int) (w2 : Int) (v3 : Int), 2147483648 - v3 < m_c9_1 → ((-9223372036854775808) ≤ w1 ∧ w1 ≤ 9223372036854775807) → ((-9223372036854775808) ≤ w2 ∧ w2 ≤ 9223372036854775807) → (0 ≤ v3 ∧ v3 ≤ 200) → JJ X E 11 G s0 0 0 [(4, .long (zL w1)), (6, .long (zL w2)), (8, .int (zI v3))] 9 [] := by
    intro m_c9_1
    induction m_c9_1 with
    | zero => intro w1 w2 v3 hm_c9_1 fA2 fA3 fA4; exfalso; omega
    | succ m_c9_1 ih_c9_1 => 
      intro w1 w2 v3 hm_c9_1 fA2 fA3 fA4
      refine j_iload hx 2 dX11_commonDivisor_9 rfl ?_
      refine j_sipush hx dX11_commonDivisor_11 rfl ?_
      refine j_icmp_ge hx 45 dX11_commonDivisor_14 rfl (by omega) ⟨by decide, by decide⟩ (fun h4 => ?_) (fun h4 => ?_)
      · skip
        refine j_lload hx 0 dX11_commonDivisor_45 rfl ?_
        exact j_lret hx hq rfl (by decide) (by decide) dX11_commonDivisor_47 ⟨w1, rfl, rfl, rfl, (by omega)⟩
      · skip
        refine j_lload hx 1 dX11_commonDivisor_17 rfl ?_
        refine j_lconst hx dX11_commonDivisor_19 ?_
        show JJ X E 11 G s0 0 0 [(4, .long (zL w1)), (6, .long (zL w2)), (8, .int (zI v3))] 20 [.long (zL 0), .long (zL w2)]
        refine j_lcmp hx dX11_commonDivisor_20 (by omega) (by omega) (fun v5 f6 f7 f8 => ?_)
        have f9 : -1 ≤ v5 ∧ v5 ≤ 1 := by omega
        refine j_if_le hx 45 dX11_commonDivisor_21 rfl (by omega) (fun h10 => ?_) (fun h10 => ?_)
        · skip
          refine j_lload hx 0 dX11_commonDivisor_45 rfl ?_
          exact j_lret hx hq rfl (by decide) (by decide) dX11_commonDivisor_47 ⟨w1, rfl, rfl, rfl, (by omega)⟩
        · skip
          refine j_lload hx 0 dX11_commonDivisor_24 rfl ?_
          refine j_lload hx 1 dX11_commonDivisor_26 rfl ?_
          refine j_lrem hx dX11_commonDivisor_28 (by omega) (by omega) (fun w11 f12 f13 => ?_)
          refine j_lstore hx [(9, .long (zL w11)), (4, .long (zL w1)), (6, .long (zL w2)), (8, .int (zI v3))] dX11_commonDivisor_29 (by decide) rfl ?_
          refine j_lload hx 2 dX11_commonDivisor_31 rfl ?_
          refine j_lstore hx [(4, .long (zL w2)), (9, .long (zL w11)), (6, .long (zL w2)), (8, .int (zI v3))] dX11_commonDivisor_33 (by decide) rfl ?_
          refine j_lload hx 1 dX11_commonDivisor_35 rfl ?_
          refine j_lstore hx [(6, .long (zL w11)), (4, .long (zL w2)), (9, .long (zL w11)), (8, .int (zI v3))] dX11_commonDivisor_37 (by decide) rfl ?_
          refine j_iinc hx 3 [(8, .int (zI (v3 + 1))), (6, .long (zL w11)), (4, .long (zL w2)), (9, .long (zL w11))] dX11_commonDivisor_39 rfl (by omega) (by decide) rfl ?_
          refine j_goto hx 9 dX11_commonDivisor_42 rfl ?_
          exact j_sub [2, 1, 0] [(4, .long (zL w2)), (6, .long (zL w11)), (8, .int (zI (v3 + 1)))] rfl (ih_c9_1 w2 w11 (v3 + 1) (by omega) (by omega) (by omega) (by omega))
  exact j_sub [2, 1, 0] [(4, .long (zL y0)), (6, .long (zL y1)), (8, .int (zI 0))] rfl (c9_1 (2147483648 * 4) y0 y1 0 (by omega) (by omega) (by omega) (by omega))

set_option maxHeartbeats 4000000 in
set_option maxRecDepth 20000 in
theorem c_J9_min_f86c9 {E : zE} {l : Launch} (hst : l.stackTraces = false) (y0 : Int) (y1 : Int) : Con E l yJ9_min_f86c9 cJ9_min_f86c9 4 (some .long) { frames := 0, cells := 0, slots := 0, locals := 0 } (fun G s vs => vs = [.long (zL y0), .long (zL y1)] ∧ zGK G ∧ zSK G s ∧ ((-9223372036854775808) ≤ y0 ∧ y0 ≤ 9223372036854775807) ∧ ((-9223372036854775808) ≤ y1 ∧ y1 ≤ 9223372036854775807)) (fun G s _ => pL (fun r G2 s2 => G2 = G ∧ s2 = s ∧ ((-9223372036854775808) ≤ r ∧ r ≤ 9223372036854775807))) := by
  refine Con.mk hst (by decide) (fun G s vs h => by rw [h.1]; exact Nat.le_of_ble_eq_true rfl) ?_
  rintro X G s0 vs ⟨rfl, hG, hS0, hy0, hy1⟩ rfl hx hq
  show JJ X E 4 G s0 0 0 [(0, .long (zL y0)), (2, .long (zL y1))] 0 []
  refine j_lload_n hx 0 dJ9_min_f86c9_0 rfl ?_
  refine j_lload_n hx 1 dJ9_min_f86c9_1 rfl ?_
  refine j_lcmp hx dJ9_min_f86c9_2 (by omega) (by omega) (fun v1 f2 f3 f4 => ?_)
  have f5 : -1 ≤ v1 ∧ v1 ≤ 1 := by omega
  refine j_if_gt hx 10 dJ9_min_f86c9_3 rfl (by omega) (fun h6 => ?_) (fun h6 => ?_)
  · skip
    refine j_lload_n hx 1 dJ9_min_f86c9_10 rfl ?_
    exact j_lret hx hq rfl (by decide) (by decide) dJ9_min_f86c9_11 ⟨y1, rfl, rfl, rfl, (by omega)⟩
  · skip
    refine j_lload_n hx 0 dJ9_min_f86c9_6 rfl ?_
    refine j_goto hx 11 dJ9_min_f86c9_7 rfl ?_
    exact j_lret hx hq rfl (by decide) (by decide) dJ9_min_f86c9_11 ⟨y0, rfl, rfl, rfl, (by omega)⟩

theorem lk_RX7_120 : LkSN RX7 120 RX11 yX11_commonDivisor cX11_commonDivisor 11 (some .long) 2 := ⟨km_RX7_120, kst_yX11_commonDivisor, kn_RX11, kc_yX11_commonDivisor, by decide +kernel, by decide +kernel, by decide +kernel⟩
theorem lk_RX7_126 : LkS RX7 126 yJ9_min_f86c9 cJ9_min_f86c9 4 (some .long) 2 := ⟨km_RX7_126, kst_yJ9_min_f86c9, kn_RJ9, kc_yJ9_min_f86c9, by decide +kernel, by decide +kernel, by decide +kernel⟩
set_option maxHeartbeats 4000000 in
set_option maxRecDepth 20000 in
theorem c_X7_cycle {E : zE} {l : Launch} (hst : l.stackTraces = false) (a : Nat) (x1 : Int) : Con E l yX7_cycle cX7_cycle 7 (some .int) { frames := 1, cells := 0, slots := 0, locals := 30 } (fun G s vs => vs = [.ref a, .int (zI x1)] ∧ zGK G ∧ zSK G s ∧ (gT G a = 8) ∧ ((-2147483648) ≤ x1 ∧ x1 ≤ 2147483647)) (fun G s _ => pI (fun r G2 s2 => G2 = G ∧ s2 = s ∧ ((-2147483648) ≤ r ∧ r ≤ 2147483647))) := by
  refine Con.mk hst (by decide) (fun G s vs h => by rw [h.1]; exact Nat.le_of_ble_eq_true rfl) ?_
  rintro X G s0 vs ⟨rfl, hG, hS0, ha, hx1⟩ rfl hx hq
  show JJ X E 7 G s0 0 0 [(0, .ref a), (1, .int (zI x1))] 0 []
  refine j_iload_n hx 1 dX7_cycle_0 rfl ?_
  refine j_istore_n hx [(2, .int (zI x1)), (0, .ref a), (1, .int (zI x1))] dX7_cycle_1 (by decide) rfl ?_
  refine j_iconst hx dX7_cycle_2 ?_
  refine j_istore_n hx [(3, .int (zI 0)), (2, .int (zI x1)), (0, .ref a), (1, .int (zI x1))] dX7_cycle_3 (by decide) rfl ?_
  have c4_1 : ∀ (m_c4_1 : Nat) (v1 : Int) (v2 : Int), 2147483648 - v2 < m_c4_1 → ((-2147483648) ≤ v1 ∧ v1 ≤ 2147483647) → (0 ≤ v2 ∧ v2 ≤ 150) → JJ X E 7 G s0 0 0 [(0, .ref a), (2, .int (zI v1)), (3, .int (zI v2))] 4 [] := by
    intro m_c4_1
    induction m_c4_1 with
    | zero => intro v1 v2 hm_c4_1 fA2 fA3; exfalso; omega
    | succ m_c4_1 ih_c4_1 => 
      intro v1 v2 hm_c4_1 fA2 fA3
      refine j_iload_n hx 2 dX7_cycle_4 rfl ?_
      refine j_aload_n hx 0 dX7_cycle_5 rfl ?_
      have f3 := zf hS0 ha (k := 1) rfl
      refine g8_1 hx hG ha kf_RX7_15 rfl dX7_cycle_6 ?_
      refine j_icmp_ge hx 112 dX7_cycle_9 rfl (by omega) (by omega) (fun h4 => ?_) (fun h4 => ?_)
      · skip
        refine j_iload_n hx 1 dX7_cycle_112 rfl ?_
        exact j_iret hx hq rfl (by decide) (by decide) dX7_cycle_113 ⟨v1, rfl, rfl, rfl, (by omega)⟩
      · skip
        refine j_iload_n hx 2 dX7_cycle_12 rfl ?_
        refine j_aload_n hx 0 dX7_cycle_13 rfl ?_
        refine g8_0 hx hG ha kf_RX7_11 dX7_cycle_14 ?_
        have f5 := znb hG (gP G a 0)
        refine j_alen hx hG (zr (k := 0) (t2 := 46) hG ha rfl) (by decide) (by decide) rfl dX7_cycle_17 ?_
        refine j_icmp_ge hx 112 dX7_cycle_18 rfl (by omega) (by omega) (fun h6 => ?_) (fun h6 => ?_)
        · skip
          refine j_iload_n hx 1 dX7_cycle_112 rfl ?_
          exact j_iret hx hq rfl (by decide) (by decide) dX7_cycle_113 ⟨v1, rfl, rfl, rfl, (by omega)⟩
        · skip
          refine j_aload_n hx 0 dX7_cycle_21 rfl ?_
          refine g8_0 hx hG ha kf_RX7_11 dX7_cycle_22 ?_
          refine j_iload_n hx 2 dX7_cycle_25 rfl ?_
          have f7 := zaI (j := (v2).toNat) hS0 (zr (k := 0) (t2 := 46) hG ha rfl) rfl rfl (show 0 ≤ v2 by omega) (by omega) rfl
          refine j_iald hx hG (zr (k := 0) (t2 := 46) hG ha rfl) (by decide) rfl rfl (by omega) (by omega) (j := (v2).toNat) rfl rfl dX7_cycle_26 ?_
          refine j_sipush hx dX7_cycle_27 rfl ?_
          refine j_iand hx dX7_cycle_30 (by omega) ⟨by decide, by decide⟩ (fun v8 f9 f10 f11 f12 _ => ?_)
          refine j_bipush hx dX7_cycle_31 rfl ?_
          refine j_ishr hx 6 64 dX7_cycle_33 (by omega) rfl (by decide) (by decide) (fun v14 f15 f16 f17 f18 => ?_)
          refine j_istore hx [(4, .int (zI v14)), (0, .ref a), (2, .int (zI v1)), (3, .int (zI v2))] dX7_cycle_34 (by decide) rfl ?_
          refine j_aload_n hx 1 dX7_cycle_36 rfl ?_
          refine g8_0 hx hG ha kf_RX7_11 dX7_cycle_37 ?_
          refine j_iload_n hx 3 dX7_cycle_40 rfl ?_
          refine j_iald hx hG (zr (k := 0) (t2 := 46) hG ha rfl) (by decide) rfl rfl (by omega) (by omega) (j := (v2).toNat) rfl rfl dX7_cycle_41 ?_
          refine j_bipush hx dX7_cycle_42 rfl ?_
          refine j_ishr hx 12 4096 dX7_cycle_44 (by omega) rfl (by decide) (by decide) (fun v19 f20 f21 f22 f23 => ?_)
          refine j_bipush hx dX7_cycle_45 rfl ?_
          have c95_4 : ∀ (v24 : Int), ((-2147483648) ≤ v24 ∧ v24 ≤ 2147483647) → JJ X E 7 G s0 0 0 [(0, .ref a), (2, .int (zI v24)), (3, .int (zI v2))] 95 [] := by
            intro v24 fA5
            refine j_iload_n hx 1 dX7_cycle_95 rfl ?_
            refine j_sipush hx dX7_cycle_96 rfl ?_
            refine j_icmp_lt hx 106 dX7_cycle_99 rfl (by omega) ⟨by decide, by decide⟩ (fun h25 => ?_) (fun h25 => ?_)
            · skip
              refine j_iinc hx 2 [(3, .int (zI (v2 + 1))), (0, .ref a), (2, .int (zI v24))] dX7_cycle_106 rfl (by omega) (by decide) rfl ?_
              refine j_goto hx 4 dX7_cycle_109 rfl ?_
              exact j_sub [1, 2, 0] [(0, .ref a), (2, .int (zI v24)), (3, .int (zI (v2 + 1)))] rfl (ih_c4_1 v24 (v2 + 1) (by omega) (by omega) (by omega))
            · skip
              refine j_sipush hx dX7_cycle_102 rfl ?_
              exact j_iret hx hq rfl (by decide) (by decide) dX7_cycle_105 ⟨3001, rfl, rfl, rfl, (by omega)⟩
          refine j_icmp_ne hx 95 dX7_cycle_47 rfl (by omega) ⟨by decide, by decide⟩ (fun h26 => ?_) (fun h26 => ?_)
          · skip
            exact j_sub [1, 2, 3] [(0, .ref a), (2, .int (zI v1)), (3, .int (zI v2))] rfl (c95_4 v1 (by omega))
          · skip
            refine j_iload hx 0 dX7_cycle_50 rfl ?_
            refine j_if_le hx 95 dX7_cycle_52 rfl (by omega) (fun h27 => ?_) (fun h27 => ?_)
            · skip
              exact j_sub [1, 2, 3] [(0, .ref a), (2, .int (zI v1)), (3, .int (zI v2))] rfl (c95_4 v1 (by omega))
            · skip
              refine j_iload_n hx 2 dX7_cycle_55 rfl ?_
              refine j_i2l hx dX7_cycle_56 (by omega) ?_
              refine j_iload hx 0 dX7_cycle_57 rfl ?_
              refine j_i2l hx dX7_cycle_59 (by omega) ?_
              refine j_callSN hx (c_X11_commonDivisor hst v1 v14) lk_RX7_120 [.long (zL v1), .long (zL v14)] ⟨rfl, hG, hS0, (by omega), (by omega)⟩ rfl rfl ⟨by decide, by decide⟩ ⟨by decide, by decide⟩ (k2 := 0) (n2 := 0) rfl rfl (Nat.le_of_ble_eq_true rfl) dX7_cycle_60 (kLP (fun v28 q29 => ?_))
              refine j_lstore hx [(5, .long (zL v28)), (4, .int (zI v14)), (0, .ref a), (2, .int (zI v1)), (3, .int (zI v2))] dX7_cycle_63 (by decide) rfl ?_
              refine j_lload hx 0 dX7_cycle_65 rfl ?_
              refine j_lconst hx dX7_cycle_67 ?_
              show JJ X E 7 G s0 0 0 [(5, .long (zL v28)), (4, .int (zI v14)), (0, .ref a), (2, .int (zI v1)), (3, .int (zI v2))] 68 [.long (zL 0), .long (zL v28)]
              refine j_lcmp hx dX7_cycle_68 (by omega) (by omega) (fun v30 f31 f32 f33 => ?_)
              have f34 : -1 ≤ v30 ∧ v30 ≤ 1 := by omega
              have c94_6 : ∀ (v35 : Int), ((-2147483648) ≤ v35 ∧ v35 ≤ 2147483647) → JJ X E 7 G s0 0 0 [(0, .ref a), (3, .int (zI v2))] 94 [.int (zI v35)] := by
                intro v35 fA7
                refine j_istore_n hx [(2, .int (zI v35)), (0, .ref a), (3, .int (zI v2))] dX7_cycle_94 (by decide) rfl ?_
                exact j_sub [1, 0, 2] [(0, .ref a), (2, .int (zI v35)), (3, .int (zI v2))] rfl (c95_4 v35 (by omega))
              refine j_if_le hx 91 dX7_cycle_69 rfl (by omega) (fun h36 => ?_) (fun h36 => ?_)
              · skip
                refine j_sipush hx dX7_cycle_91 rfl ?_
                exact j_sub [2, 4] [(0, .ref a), (3, .int (zI v2))] rfl (c94_6 3001 (by omega))
              · skip
                refine j_ldc2 hx (c := 3001) dX7_cycle_72 kk_RX7_124 (by decide) ?_
                refine j_iload_n hx 3 dX7_cycle_75 rfl ?_
                refine j_i2l hx dX7_cycle_76 (by omega) ?_
                refine j_lload hx 0 dX7_cycle_77 rfl ?_
                refine j_ldiv hx dX7_cycle_79 (by omega) (by omega) (fun w37 f38 f39 => ?_)
                refine j_iload hx 1 dX7_cycle_80 rfl ?_
                refine j_i2l hx dX7_cycle_82 (by omega) ?_
                refine j_lmul hx dX7_cycle_83 (fun w40 f41 f42 => ?_)
                refine j_callS hx (c_J9_min_f86c9 hst 3001 w40) lk_RX7_126 [.long (zL 3001), .long (zL w40)] ⟨rfl, hG, hS0, (by omega), (by omega)⟩ rfl rfl ⟨by decide, by decide⟩ ⟨by decide, by decide⟩ (k2 := 0) (n2 := 0) rfl rfl (Nat.le_of_ble_eq_true rfl) dX7_cycle_84 (kLP (fun v43 q44 => ?_))
                refine j_l2i hx dX7_cycle_87 (by omega) (fun v45 f46 f47 f48 => ?_)
                refine j_goto hx 94 dX7_cycle_88 rfl ?_
                exact j_sub [2, 4] [(0, .ref a), (3, .int (zI v2))] rfl (c94_6 v45 (by omega))
  exact j_sub [2, 1, 0] [(0, .ref a), (2, .int (zI x1)), (3, .int (zI 0))] rfl (c4_1 (2147483648 * 4) x1 0 (by omega) (by omega) (by omega))

theorem lk_RX3_74 : LkV RX3 74 RX7 yX7_cycle cX7_cycle 7 (some .int) 1 := ⟨km_RX3_74, ki_yX7_cycle, ks_RX7_yX7_cycle, kn_RX7, kc_yX7_cycle, rfl, by decide +kernel, by decide +kernel, by decide +kernel⟩
set_option maxHeartbeats 4000000 in
set_option maxRecDepth 20000 in
theorem c_X3_cycle {E : zE} {l : Launch} (hst : l.stackTraces = false) (a : Nat) : Con E l yX3_cycle cX3_cycle 4 (some .int) { frames := 2, cells := 0, slots := 0, locals := 56 } (fun G s vs => vs = [.ref a] ∧ zGK G ∧ zSK G s ∧ (gT G a = 4)) (fun G s _ => pI (fun r G2 s2 => G2 = G ∧ s2 = s ∧ ((-2147483648) ≤ r ∧ r ≤ 2147483647))) := by
  refine Con.mk hst (by decide) (fun G s vs h => by rw [h.1]; exact Nat.le_of_ble_eq_true rfl) ?_
  rintro X G s0 vs ⟨rfl, hG, hS0, ha⟩ rfl hx hq
  show JJ X E 4 G s0 0 0 [(0, .ref a)] 0 []
  refine j_iconst hx dX3_cycle_0 ?_
  refine j_istore_n hx [(1, .int (zI 1)), (0, .ref a)] dX3_cycle_1 (by decide) rfl ?_
  refine j_iconst hx dX3_cycle_2 ?_
  refine j_istore_n hx [(2, .int (zI 0)), (1, .int (zI 1)), (0, .ref a)] dX3_cycle_3 (by decide) rfl ?_
  have c4_1 : ∀ (m_c4_1 : Nat) (v1 : Int) (v2 : Int), 2147483648 - v2 < m_c4_1 → ((-2147483648) ≤ v1 ∧ v1 ≤ 2147483647) → (0 ≤ v2 ∧ v2 ≤ 6) → JJ X E 4 G s0 0 0 [(0, .ref a), (1, .int (zI v1)), (2, .int (zI v2))] 4 [] := by
    intro m_c4_1
    induction m_c4_1 with
    | zero => intro v1 v2 hm_c4_1 fA2 fA3; exfalso; omega
    | succ m_c4_1 ih_c4_1 => 
      intro v1 v2 hm_c4_1 fA2 fA3
      refine j_iload_n hx 2 dX3_cycle_4 rfl ?_
      refine j_aload_n hx 0 dX3_cycle_5 rfl ?_
      refine g4_3 hx hG ha kf_RX3_24 dX3_cycle_6 ?_
      refine j_alen hx hG (zr (k := 3) (t2 := 49) hG ha rfl) (by decide) (by decide) (zlen hG (zr (k := 3) (t2 := 49) hG ha rfl) (n := 6) rfl rfl) dX3_cycle_9 ?_
      refine j_icmp_ge hx 40 dX3_cycle_10 rfl (by omega) ⟨by decide, by decide⟩ (fun h3 => ?_) (fun h3 => ?_)
      · skip
        refine j_iload_n hx 1 dX3_cycle_40 rfl ?_
        exact j_iret hx hq rfl (by decide) (by decide) dX3_cycle_41 ⟨v1, rfl, rfl, rfl, (by omega)⟩
      · skip
        refine j_aload_n hx 0 dX3_cycle_13 rfl ?_
        refine g4_3 hx hG ha kf_RX3_24 dX3_cycle_14 ?_
        refine j_iload_n hx 2 dX3_cycle_17 rfl ?_
        refine j_aald hx hG hS0 (zr (k := 3) (t2 := 49) hG ha rfl) (by decide) (by decide) rfl (zlen hG (zr (k := 3) (t2 := 49) hG ha rfl) (n := 6) rfl rfl) (by omega) (by omega) dX3_cycle_18 (fun h4 => ?_) (fun h5 h6 => ?_)
        · skip
          refine j_astore_nN hx [(3, .null), (0, .ref a), (1, .int (zI v1)), (2, .int (zI v2))] dX3_cycle_19 (by decide) rfl ?_
          refine j_aload_nN hx 0 dX3_cycle_20 rfl ?_
          have c33_4 : ∀ (v7 : Int), ((-2147483648) ≤ v7 ∧ v7 ≤ 2147483647) → JJ X E 4 G s0 0 0 [(0, .ref a), (2, .int (zI v2))] 33 [.int (zI v7)] := by
            intro v7 fA5
            refine j_istore_n hx [(1, .int (zI v7)), (0, .ref a), (2, .int (zI v2))] dX3_cycle_33 (by decide) rfl ?_
            refine j_iinc hx 2 [(2, .int (zI (v2 + 1))), (1, .int (zI v7)), (0, .ref a)] dX3_cycle_34 rfl (by omega) (by decide) rfl ?_
            refine j_goto hx 4 dX3_cycle_37 rfl ?_
            exact j_sub [2, 1, 0] [(0, .ref a), (1, .int (zI v7)), (2, .int (zI (v2 + 1)))] rfl (ih_c4_1 v7 (v2 + 1) (by omega) (by omega) (by omega))
          refine j_ifnonnullN hx dX3_cycle_21 ?_
          refine j_iload_n hx 2 dX3_cycle_24 rfl ?_
          refine j_goto hx 33 dX3_cycle_25 rfl ?_
          exact j_sub [1, 3] [(0, .ref a), (2, .int (zI v2))] rfl (c33_4 v1 (by omega))
        · skip
          refine j_astore_n hx [(3, .ref ((s0 (gP G a 3) (v2).toNat).toNat - 1)), (0, .ref a), (1, .int (zI v1)), (2, .int (zI v2))] dX3_cycle_19 (by decide) rfl ?_
          refine j_aload_n hx 0 dX3_cycle_20 rfl ?_
          have c33_6 : ∀ (v8 : Int), ((-2147483648) ≤ v8 ∧ v8 ≤ 2147483647) → JJ X E 4 G s0 0 0 [(0, .ref a), (2, .int (zI v2))] 33 [.int (zI v8)] := by
            intro v8 fA7
            refine j_istore_n hx [(1, .int (zI v8)), (0, .ref a), (2, .int (zI v2))] dX3_cycle_33 (by decide) rfl ?_
            refine j_iinc hx 2 [(2, .int (zI (v2 + 1))), (1, .int (zI v8)), (0, .ref a)] dX3_cycle_34 rfl (by omega) (by decide) rfl ?_
            refine j_goto hx 4 dX3_cycle_37 rfl ?_
            exact j_sub [2, 1, 0] [(0, .ref a), (1, .int (zI v8)), (2, .int (zI (v2 + 1)))] rfl (ih_c4_1 v8 (v2 + 1) (by omega) (by omega) (by omega))
          refine j_ifnonnull hx 28 dX3_cycle_21 rfl ?_
          refine j_aload_n hx 0 dX3_cycle_28 rfl ?_
          refine j_iload_n hx 2 dX3_cycle_29 rfl ?_
          refine j_callV hx hG (c_X7_cycle hst (s0 (gP G a 3) (v2).toNat).toNat - 1 v1) lk_RX3_74 h6 (by decide) rfl rfl rfl rfl [.int (zI v1)] ⟨rfl, hG, hS0, h6, (by omega)⟩ rfl rfl ⟨by decide, by decide⟩ ⟨by decide, by decide⟩ (k2 := 0) (n2 := 0) rfl rfl (Nat.le_of_ble_eq_true rfl) dX3_cycle_30 (kIP (fun v9 q10 => ?_))
          exact j_sub [1, 3] [(0, .ref a), (2, .int (zI v2))] rfl (c33_6 v9 (by omega))
  exact j_sub [2, 1, 0] [(0, .ref a), (1, .int (zI 1)), (2, .int (zI 0))] rfl (c4_1 (2147483648 * 4) 1 0 (by omega) (by omega) (by omega))

set_option maxHeartbeats 4000000 in
set_option maxRecDepth 20000 in
theorem c_fill_54m {E : zE} {l : Launch} (hst : l.stackTraces = false) (b0 : Nat) (x1 : Int) : Con E l yJ7_fill_53178 cJ7_fill_53178 4 none { frames := 0, cells := 0, slots := 0, locals := 0 } (fun G s vs => vs = [.ref b0, .int (zI x1)] ∧ zGK G ∧ zSK G s ∧ (gT G b0 = 54) ∧ ((-1) ≤ x1 ∧ x1 ≤ (-1))) (fun G s _ => pV (fun G2 s2 => G2 = G ∧ zSK G s2 ∧ zFr [54] G s s2 ∧ True)) := by
  refine Con.mk hst (by decide) (fun G s vs h => by rw [h.1]; exact Nat.le_of_ble_eq_true rfl) ?_
  rintro X G s0 vs ⟨rfl, hG, hS0, hb0, hx1⟩ rfl hx hq
  show JJ X E 4 G s0 0 0 [(0, .ref b0), (1, .int (zI x1))] 0 []
  refine j_iconst hx dJ7_fill_53178_0 ?_
  refine j_istore_n hx [(2, .int (zI 0)), (0, .ref b0), (1, .int (zI x1))] dJ7_fill_53178_1 (by decide) rfl ?_
  refine j_aload_n hx 1 dJ7_fill_53178_2 rfl ?_
  refine j_alen hx hG hb0 (by decide) (by decide) (zlen hG hb0 (n := 4096) rfl rfl) dJ7_fill_53178_3 ?_
  refine j_istore_n hx [(3, .int (zI 4096)), (2, .int (zI 0)), (0, .ref b0), (1, .int (zI x1))] dJ7_fill_53178_4 (by decide) rfl ?_
  have c5_1 : ∀ (m_c5_1 : Nat) (v1 : Int) (s2 : zS), 2147483648 - v1 < m_c5_1 → (0 ≤ v1 ∧ v1 ≤ 4096) → (zSK G s2) → (zFr [54] G s0 s2) → JJ X E 4 G s2 0 0 [(0, .ref b0), (1, .int (zI x1)), (2, .int (zI v1)), (3, .int (zI 4096))] 5 [] := by
    intro m_c5_1
    induction m_c5_1 with
    | zero => intro v1 s2 hm_c5_1 fA3 hS_s2 hF_s2; exfalso; omega
    | succ m_c5_1 ih_c5_1 => 
      intro v1 s2 hm_c5_1 fA3 hS_s2 hF_s2
      refine j_iload_n hx 2 dJ7_fill_53178_5 rfl ?_
      refine j_iload_n hx 3 dJ7_fill_53178_6 rfl ?_
      refine j_icmp_ge hx 20 dJ7_fill_53178_7 rfl (by omega) ⟨by decide, by decide⟩ (fun h2 => ?_) (fun h2 => ?_)
      · skip
        exact j_vret hx hq rfl (by decide) (by decide) dJ7_fill_53178_20 ⟨rfl, rfl, hS_s2, (zFr_t zFr_rf hF_s2 (by decide)), trivial⟩
      · skip
        refine j_aload_n hx 0 dJ7_fill_53178_10 rfl ?_
        refine j_iload_n hx 2 dJ7_fill_53178_11 rfl ?_
        refine j_iload_n hx 1 dJ7_fill_53178_12 rfl ?_
        refine j_iast hx hG hb0 (by decide) rfl (zlen hG hb0 (n := 4096) rfl rfl) (by omega) (by omega) (j := (v1).toNat) rfl dJ7_fill_53178_13 ?_
        obtain ⟨s6, e_s6⟩ : ∃ z, z = zU s2 b0 (v1).toNat x1 := ⟨_, rfl⟩
        rw [← e_s6]
        have hS_s6 : zSK G s6 := by rw [e_s6]; exact zSK_A hS_s2 hb0 rfl rfl rfl (by omega)
        refine j_iinc hx 2 [(2, .int (zI (v1 + 1))), (0, .ref b0), (1, .int (zI x1)), (3, .int (zI 4096))] dJ7_fill_53178_14 rfl (by omega) (by decide) rfl ?_
        refine j_goto hx 5 dJ7_fill_53178_17 rfl ?_
        exact j_sub [1, 2, 0, 3] [(0, .ref b0), (1, .int (zI x1)), (2, .int (zI (v1 + 1))), (3, .int (zI 4096))] rfl (ih_c5_1 (v1 + 1) s6 (by omega) (by omega) hS_s6 (zFr_u (zFr_t zFr_rf hF_s2 (by decide)) e_s6 hb0 (by decide)))
  exact j_sub [2, 3, 1, 0] [(0, .ref b0), (1, .int (zI x1)), (2, .int (zI 0)), (3, .int (zI 4096))] rfl (c5_1 (2147483648 * 4) 0 s0 (by omega) (by omega) hS0 zFr_rf)

set_option maxHeartbeats 4000000 in
set_option maxRecDepth 20000 in
theorem c_X2_slotOf {E : zE} {l : Launch} (hst : l.stackTraces = false) (a : Nat) (x1 : Int) : Con E l yX2_slotOf cX2_slotOf 5 (some .int) { frames := 0, cells := 0, slots := 0, locals := 0 } (fun G s vs => vs = [.ref a, .int (zI x1)] ∧ zGK G ∧ zSK G s ∧ (gT G a = 3) ∧ ((-2147483648) ≤ x1 ∧ x1 ≤ 2147483647)) (fun G s _ => pI (fun r G2 s2 => G2 = G ∧ s2 = s ∧ ((-2147483648) ≤ r ∧ r ≤ 2147483647))) := by
  refine Con.mk hst (by decide) (fun G s vs h => by rw [h.1]; exact Nat.le_of_ble_eq_true rfl) ?_
  rintro X G s0 vs ⟨rfl, hG, hS0, ha, hx1⟩ rfl hx hq
  show JJ X E 5 G s0 0 0 [(0, .ref a), (1, .int (zI x1))] 0 []
  refine j_lconst hx dX2_slotOf_0 ?_
  show JJ X E 5 G s0 0 0 [(0, .ref a), (1, .int (zI x1))] 1 [.long (zL 0)]
  refine j_lstore_n hx [(2, .long (zL 0)), (0, .ref a), (1, .int (zI x1))] dX2_slotOf_1 (by decide) rfl ?_
  refine j_iload_n hx 2 dX2_slotOf_2 rfl ?_
  refine j_istore hx [(4, .int (zI x1)), (2, .long (zL 0)), (0, .ref a), (1, .int (zI x1))] dX2_slotOf_3 (by decide) rfl ?_
  have c5_1 : ∀ (m_c5_1 : Nat) (w1 : Int) (v2 : Int), 2147483648 - v2 < m_c5_1 → ((-9223372036854775808) ≤ w1 ∧ w1 ≤ 9223372036854775807) → ((-2147483648) ≤ v2 ∧ v2 ≤ 2147483647) → JJ X E 5 G s0 0 0 [(0, .ref a), (1, .int (zI x1)), (2, .long (zL w1)), (4, .int (zI v2))] 5 [] := by
    intro m_c5_1
    induction m_c5_1 with
    | zero => intro w1 v2 hm_c5_1 fA2 fA3; exfalso; omega
    | succ m_c5_1 ih_c5_1 => 
      intro w1 v2 hm_c5_1 fA2 fA3
      refine j_iload hx 3 dX2_slotOf_5 rfl ?_
      refine j_if_lt hx 56 dX2_slotOf_7 rfl (by omega) (fun h3 => ?_) (fun h3 => ?_)
      · skip
        refine j_lload_n hx 2 dX2_slotOf_56 rfl ?_
        refine j_bipush hx dX2_slotOf_57 rfl ?_
        refine j_lushr hx dX2_slotOf_59 (fun w4 f5 f6 => ?_)
        refine j_l2i hx dX2_slotOf_60 (by omega) (fun v7 f8 f9 f10 => ?_)
        exact j_iret hx hq rfl (by decide) (by decide) dX2_slotOf_61 ⟨v7, rfl, rfl, rfl, (by omega)⟩
      · skip
        refine j_iload hx 3 dX2_slotOf_10 rfl ?_
        refine j_iload_n hx 1 dX2_slotOf_12 rfl ?_
        refine j_bipush hx dX2_slotOf_13 rfl ?_
        refine j_iadd hx (r := x1 + 7) dX2_slotOf_15 rfl ?_
        refine j_norm (fun v11 f12 f13 f14 => ?_)
        refine j_icmp_ge hx 56 dX2_slotOf_16 rfl (by omega) (by omega) (fun h15 => ?_) (fun h15 => ?_)
        · skip
          refine j_lload_n hx 2 dX2_slotOf_56 rfl ?_
          refine j_bipush hx dX2_slotOf_57 rfl ?_
          refine j_lushr hx dX2_slotOf_59 (fun w16 f17 f18 => ?_)
          refine j_l2i hx dX2_slotOf_60 (by omega) (fun v19 f20 f21 f22 => ?_)
          exact j_iret hx hq rfl (by decide) (by decide) dX2_slotOf_61 ⟨v19, rfl, rfl, rfl, (by omega)⟩
        · skip
          refine j_iload hx 3 dX2_slotOf_19 rfl ?_
          refine j_aload_n hx 0 dX2_slotOf_21 rfl ?_
          refine g3_1 hx hG ha kf_RX2_11 dX2_slotOf_22 ?_
          have f23 := znb hG (gP G a 1)
          refine j_alen hx hG (zr (k := 1) (t2 := 53) hG ha rfl) (by decide) (by decide) rfl dX2_slotOf_25 ?_
          refine j_icmp_ge hx 56 dX2_slotOf_26 rfl (by omega) (by omega) (fun h24 => ?_) (fun h24 => ?_)
          · skip
            refine j_lload_n hx 2 dX2_slotOf_56 rfl ?_
            refine j_bipush hx dX2_slotOf_57 rfl ?_
            refine j_lushr hx dX2_slotOf_59 (fun w25 f26 f27 => ?_)
            refine j_l2i hx dX2_slotOf_60 (by omega) (fun v28 f29 f30 f31 => ?_)
            exact j_iret hx hq rfl (by decide) (by decide) dX2_slotOf_61 ⟨v28, rfl, rfl, rfl, (by omega)⟩
          · skip
            refine j_lload_n hx 2 dX2_slotOf_29 rfl ?_
            refine j_aload_n hx 0 dX2_slotOf_30 rfl ?_
            refine g3_1 hx hG ha kf_RX2_11 dX2_slotOf_31 ?_
            refine j_iload hx 3 dX2_slotOf_34 rfl ?_
            have f32 := zaI (j := (v2).toNat) hS0 (zr (k := 1) (t2 := 53) hG ha rfl) rfl rfl (show 0 ≤ v2 by omega) (by omega) rfl
            refine j_lald hx hG (zr (k := 1) (t2 := 53) hG ha rfl) (by decide) rfl rfl (by omega) (by omega) (j := (v2).toNat) rfl rfl dX2_slotOf_36 ?_
            refine j_lxor hx dX2_slotOf_37 (fun w33 f34 f35 => ?_)
            refine j_ldc2 hx (c := (-7046029254386353131)) dX2_slotOf_38 kk_RX2_105 (by decide) ?_
            refine j_lmul hx dX2_slotOf_41 (fun w36 f37 f38 => ?_)
            refine j_lstore_n hx [(2, .long (zL w36)), (0, .ref a), (1, .int (zI x1)), (4, .int (zI v2))] dX2_slotOf_42 (by decide) rfl ?_
            refine j_lload_n hx 0 dX2_slotOf_43 rfl ?_
            refine j_lload_n hx 0 dX2_slotOf_44 rfl ?_
            refine j_bipush hx dX2_slotOf_45 rfl ?_
            refine j_lushr hx dX2_slotOf_47 (fun w39 f40 f41 => ?_)
            refine j_lxor hx dX2_slotOf_48 (fun w42 f43 f44 => ?_)
            refine j_lstore_n hx [(2, .long (zL w42)), (0, .ref a), (1, .int (zI x1)), (4, .int (zI v2))] dX2_slotOf_49 (by decide) rfl ?_
            refine j_iinc hx 3 [(4, .int (zI (v2 + 1))), (2, .long (zL w42)), (0, .ref a), (1, .int (zI x1))] dX2_slotOf_50 rfl (by omega) (by decide) rfl ?_
            refine j_goto hx 5 dX2_slotOf_53 rfl ?_
            exact j_sub [2, 3, 1, 0] [(0, .ref a), (1, .int (zI x1)), (2, .long (zL w42)), (4, .int (zI (v2 + 1)))] rfl (ih_c5_1 w42 (v2 + 1) (by omega) (by omega) (by omega))
  exact j_sub [2, 3, 1, 0] [(0, .ref a), (1, .int (zI x1)), (2, .long (zL 0)), (4, .int (zI x1))] rfl (c5_1 (2147483648 * 4) 0 x1 (by omega) (by omega) (by omega))

set_option maxHeartbeats 4000000 in
set_option maxRecDepth 20000 in
theorem c_X2_isSame {E : zE} {l : Launch} (hst : l.stackTraces = false) (a : Nat) (x1 : Int) (x2 : Int) : Con E l yX2_isSame cX2_isSame 5 (some .boolean) { frames := 0, cells := 0, slots := 0, locals := 0 } (fun G s vs => vs = [.ref a, .int (zI x1), .int (zI x2)] ∧ zGK G ∧ zSK G s ∧ (gT G a = 3) ∧ ((-2147483648) ≤ x1 ∧ x1 ≤ 2147483647) ∧ ((-2147483648) ≤ x2 ∧ x2 ≤ 2147483647)) (fun G s _ => pI (fun r G2 s2 => G2 = G ∧ s2 = s ∧ (0 ≤ r ∧ r ≤ 1))) := by
  refine Con.mk hst (by decide) (fun G s vs h => by rw [h.1]; exact Nat.le_of_ble_eq_true rfl) ?_
  rintro X G s0 vs ⟨rfl, hG, hS0, ha, hx1, hx2⟩ rfl hx hq
  show JJ X E 5 G s0 0 0 [(0, .ref a), (1, .int (zI x1)), (2, .int (zI x2))] 0 []
  refine j_aload_n hx 0 dX2_isSame_0 rfl ?_
  refine g3_1 hx hG ha kf_RX2_11 dX2_isSame_1 ?_
  have f1 := znb hG (gP G a 1)
  refine j_alen hx hG (zr (k := 1) (t2 := 53) hG ha rfl) (by decide) (by decide) rfl dX2_isSame_4 ?_
  refine j_bipush hx dX2_isSame_5 rfl ?_
  refine j_isub hx (r := (gN G (gP G a 1) : Int) - 7) dX2_isSame_7 (by omega) ?_
  refine j_istore_n hx [(3, .int (zI ((gN G (gP G a 1) : Int) - 7))), (0, .ref a), (1, .int (zI x1)), (2, .int (zI x2))] dX2_isSame_8 (by decide) rfl ?_
  refine j_iload_n hx 2 dX2_isSame_9 rfl ?_
  refine j_if_lt hx 27 dX2_isSame_10 rfl (by omega) (fun h2 => ?_) (fun h2 => ?_)
  · skip
    refine j_iconst hx dX2_isSame_27 ?_
    exact j_zret hx hq rfl (by decide) (by decide) dX2_isSame_28 (by omega) ⟨0, rfl, rfl, rfl, (by omega)⟩
  · skip
    refine j_iload_n hx 3 dX2_isSame_13 rfl ?_
    refine j_if_lt hx 27 dX2_isSame_14 rfl (by omega) (fun h3 => ?_) (fun h3 => ?_)
    · skip
      refine j_iconst hx dX2_isSame_27 ?_
      exact j_zret hx hq rfl (by decide) (by decide) dX2_isSame_28 (by omega) ⟨0, rfl, rfl, rfl, (by omega)⟩
    · skip
      refine j_iload_n hx 2 dX2_isSame_17 rfl ?_
      refine j_iload_n hx 0 dX2_isSame_18 rfl ?_
      refine j_icmp_gt hx 27 dX2_isSame_19 rfl (by omega) (by omega) (fun h4 => ?_) (fun h4 => ?_)
      · skip
        refine j_iconst hx dX2_isSame_27 ?_
        exact j_zret hx hq rfl (by decide) (by decide) dX2_isSame_28 (by omega) ⟨0, rfl, rfl, rfl, (by omega)⟩
      · skip
        refine j_iload_n hx 3 dX2_isSame_22 rfl ?_
        refine j_iload_n hx 0 dX2_isSame_23 rfl ?_
        refine j_icmp_le hx 29 dX2_isSame_24 rfl (by omega) (by omega) (fun h5 => ?_) (fun h5 => ?_)
        · skip
          refine j_iconst hx dX2_isSame_29 ?_
          refine j_istore hx [(4, .int (zI 0)), (3, .int (zI ((gN G (gP G a 1) : Int) - 7))), (0, .ref a), (1, .int (zI x1)), (2, .int (zI x2))] dX2_isSame_30 (by decide) rfl ?_
          have c32_1 : ∀ (m_c32_1 : Nat) (v6 : Int), 2147483648 - v6 < m_c32_1 → (0 ≤ v6 ∧ v6 ≤ 7) → JJ X E 5 G s0 0 0 [(0, .ref a), (1, .int (zI x1)), (2, .int (zI x2)), (4, .int (zI v6))] 32 [] := by
            intro m_c32_1
            induction m_c32_1 with
            | zero => intro v6 hm_c32_1 fA2; exfalso; omega
            | succ m_c32_1 ih_c32_1 => 
              intro v6 hm_c32_1 fA2
              refine j_iload hx 3 dX2_isSame_32 rfl ?_
              refine j_bipush hx dX2_isSame_34 rfl ?_
              refine j_icmp_ge hx 69 dX2_isSame_36 rfl (by omega) ⟨by decide, by decide⟩ (fun h7 => ?_) (fun h7 => ?_)
              · skip
                refine j_iconst hx dX2_isSame_69 ?_
                exact j_zret hx hq rfl (by decide) (by decide) dX2_isSame_70 (by omega) ⟨1, rfl, rfl, rfl, (by omega)⟩
              · skip
                refine j_aload_n hx 0 dX2_isSame_39 rfl ?_
                refine g3_1 hx hG ha kf_RX2_11 dX2_isSame_40 ?_
                refine j_iload_n hx 1 dX2_isSame_43 rfl ?_
                refine j_iload hx 3 dX2_isSame_44 rfl ?_
                refine j_iadd hx (r := x1 + v6) dX2_isSame_46 rfl ?_
                have f8 := zaI (j := (x1 + v6).toNat) hS0 (zr (k := 1) (t2 := 53) hG ha rfl) rfl rfl (show 0 ≤ x1 + v6 by omega) (by omega) rfl
                refine j_lald hx hG (zr (k := 1) (t2 := 53) hG ha rfl) (by decide) rfl rfl (by omega) (by omega) (j := (x1 + v6).toNat) rfl rfl dX2_isSame_47 ?_
                refine j_aload_n hx 0 dX2_isSame_48 rfl ?_
                refine g3_1 hx hG ha kf_RX2_11 dX2_isSame_49 ?_
                refine j_iload_n hx 2 dX2_isSame_52 rfl ?_
                refine j_iload hx 3 dX2_isSame_53 rfl ?_
                refine j_iadd hx (r := x2 + v6) dX2_isSame_55 rfl ?_
                have f9 := zaI (j := (x2 + v6).toNat) hS0 (zr (k := 1) (t2 := 53) hG ha rfl) rfl rfl (show 0 ≤ x2 + v6 by omega) (by omega) rfl
                refine j_lald hx hG (zr (k := 1) (t2 := 53) hG ha rfl) (by decide) rfl rfl (by omega) (by omega) (j := (x2 + v6).toNat) rfl rfl dX2_isSame_56 ?_
                refine j_lcmp hx dX2_isSame_57 (by omega) (by omega) (fun v10 f11 f12 f13 => ?_)
                have f14 : -1 ≤ v10 ∧ v10 ≤ 1 := by omega
                refine j_if_eq hx 63 dX2_isSame_58 rfl (by omega) (fun h15 => ?_) (fun h15 => ?_)
                · skip
                  refine j_iinc hx 3 [(4, .int (zI (v6 + 1))), (0, .ref a), (1, .int (zI x1)), (2, .int (zI x2))] dX2_isSame_63 rfl (by omega) (by decide) rfl ?_
                  refine j_goto hx 32 dX2_isSame_66 rfl ?_
                  exact j_sub [1, 2, 3, 0] [(0, .ref a), (1, .int (zI x1)), (2, .int (zI x2)), (4, .int (zI (v6 + 1)))] rfl (ih_c32_1 (v6 + 1) (by omega) (by omega))
                · skip
                  refine j_iconst hx dX2_isSame_61 ?_
                  exact j_zret hx hq rfl (by decide) (by decide) dX2_isSame_62 (by omega) ⟨0, rfl, rfl, rfl, (by omega)⟩
          exact j_sub [2, 3, 4, 0] [(0, .ref a), (1, .int (zI x1)), (2, .int (zI x2)), (4, .int (zI 0))] rfl (c32_1 (2147483648 * 4) 0 (by omega) (by omega))
        · skip
          refine j_iconst hx dX2_isSame_27 ?_
          exact j_zret hx hq rfl (by decide) (by decide) dX2_isSame_28 (by omega) ⟨0, rfl, rfl, rfl, (by omega)⟩

theorem lk_RX2_83 : LkV RX2 83 RX0 yX0_pack cX0_pack 12 none 2 := ⟨km_RX2_83, ki_yX0_pack, ks_RX0_yX0_pack, kn_RX0, kc_yX0_pack, rfl, by decide +kernel, by decide +kernel, by decide +kernel⟩
theorem lk_RX2_97 : LkV RX2 97 RX2 yX2_slotOf cX2_slotOf 5 (some .int) 1 := ⟨km_RX2_97, ki_yX2_slotOf, ks_RX2_yX2_slotOf, kn_RX2, kc_yX2_slotOf, rfl, by decide +kernel, by decide +kernel, by decide +kernel⟩
theorem lk_RX2_101 : LkV RX2 101 RX2 yX2_isSame cX2_isSame 5 (some .boolean) 2 := ⟨km_RX2_101, ki_yX2_isSame, ks_RX2_yX2_isSame, kn_RX2, kc_yX2_isSame, rfl, by decide +kernel, by decide +kernel, by decide +kernel⟩
set_option maxHeartbeats 4000000 in
set_option maxRecDepth 20000 in
theorem c_X2_note {E : zE} {l : Launch} (hst : l.stackTraces = false) (a : Nat) (x1 : Int) (x2 : Int) : Con E l yX2_note cX2_note 7 (some .int) { frames := 4, cells := 0, slots := 0, locals := 96 } (fun G s vs => vs = [.ref a, .int (zI x1), .int (zI x2)] ∧ zGK G ∧ zSK G s ∧ (gT G a = 3) ∧ ((-2147483648) ≤ x1 ∧ x1 ≤ 2147483647) ∧ ((-2147483648) ≤ x2 ∧ x2 ≤ 2147483647)) (fun G s _ => pI (fun r G2 s2 => G2 = G ∧ zSK G s2 ∧ zFr [53, 54, 55] G s s2 ∧ ((-2147483648) ≤ r ∧ r ≤ 2147483647))) := by
  refine Con.mk hst (by decide) (fun G s vs h => by rw [h.1]; exact Nat.le_of_ble_eq_true rfl) ?_
  rintro X G s0 vs ⟨rfl, hG, hS0, ha, hx1, hx2⟩ rfl hx hq
  show JJ X E 7 G s0 0 0 [(0, .ref a), (1, .int (zI x1)), (2, .int (zI x2))] 0 []
  refine j_iload_n hx 1 dX2_note_0 rfl ?_
  refine j_bipush hx dX2_note_1 rfl ?_
  refine j_imul hx (r := 7 * x1) dX2_note_3 (by omega) ?_
  refine j_norm (fun v1 f2 f3 f4 => ?_)
  refine j_istore_n hx [(3, .int (zI v1)), (0, .ref a), (1, .int (zI x1)), (2, .int (zI x2))] dX2_note_4 (by decide) rfl ?_
  refine j_iload_n hx 2 dX2_note_5 rfl ?_
  refine j_if_lt hx 34 dX2_note_6 rfl (by omega) (fun h5 => ?_) (fun h5 => ?_)
  · skip
    refine j_iconst hx dX2_note_34 ?_
    exact j_iret hx hq rfl (by decide) (by decide) dX2_note_35 ⟨(-1), rfl, rfl, hS0, zFr_rf, (by omega)⟩
  · skip
    refine j_iload_n hx 2 dX2_note_9 rfl ?_
    refine j_aload_n hx 1 dX2_note_10 rfl ?_
    refine g3_3 hx hG ha kf_RX2_19 dX2_note_11 ?_
    refine j_alen hx hG (zr (k := 3) (t2 := 55) hG ha rfl) (by decide) (by decide) (zlen hG (zr (k := 3) (t2 := 55) hG ha rfl) (n := 3001) rfl rfl) dX2_note_14 ?_
    refine j_icmp_ge hx 34 dX2_note_15 rfl (by omega) ⟨by decide, by decide⟩ (fun h6 => ?_) (fun h6 => ?_)
    · skip
      refine j_iconst hx dX2_note_34 ?_
      exact j_iret hx hq rfl (by decide) (by decide) dX2_note_35 ⟨(-1), rfl, rfl, hS0, zFr_rf, (by omega)⟩
    · skip
      refine j_iload_n hx 0 dX2_note_18 rfl ?_
      refine j_aload_n hx 1 dX2_note_19 rfl ?_
      refine g3_1 hx hG ha kf_RX2_11 dX2_note_20 ?_
      have f7 := znb hG (gP G a 1)
      refine j_alen hx hG (zr (k := 1) (t2 := 53) hG ha rfl) (by decide) (by decide) rfl dX2_note_23 ?_
      refine j_bipush hx dX2_note_24 rfl ?_
      refine j_isub hx (r := (gN G (gP G a 1) : Int) - 7) dX2_note_26 (by omega) ?_
      refine j_icmp_gt hx 34 dX2_note_27 rfl (by omega) (by omega) (fun h8 => ?_) (fun h8 => ?_)
      · skip
        refine j_iconst hx dX2_note_34 ?_
        exact j_iret hx hq rfl (by decide) (by decide) dX2_note_35 ⟨(-1), rfl, rfl, hS0, zFr_rf, (by omega)⟩
      · skip
        refine j_iload_n hx 3 dX2_note_30 rfl ?_
        refine j_if_gt hx 36 dX2_note_31 rfl (by omega) (fun h9 => ?_) (fun h9 => ?_)
        · skip
          refine j_aload_n hx 1 dX2_note_36 rfl ?_
          refine g3_0 hx hG ha kf_RX2_27 dX2_note_37 ?_
          refine gN4_1 hx hG (zr (k := 0) (t2 := 4) hG ha rfl) kf_RX2_61 dX2_note_40 ?_
          refine j_aload_n hx 1 dX2_note_43 rfl ?_
          refine g3_1 hx hG ha kf_RX2_11 dX2_note_44 ?_
          refine j_iload_n hx 0 dX2_note_47 rfl ?_
          refine j_callV hx hG (c_X0_pack hst (gP G (gP G a 0) 1) (gP G a 1) v1) lk_RX2_83 (zr (k := 1) (t2 := 1) hG (zr (k := 0) (t2 := 4) hG ha rfl) rfl) (by decide) rfl rfl rfl rfl [.ref (gP G a 1), .int (zI v1)] ⟨rfl, hG, hS0, (zr (k := 1) (t2 := 1) hG (zr (k := 0) (t2 := 4) hG ha rfl) rfl), (zr (k := 1) (t2 := 53) hG ha rfl), (by omega)⟩ rfl rfl ⟨by decide, by decide⟩ ⟨by decide, by decide⟩ (k2 := 0) (n2 := 0) rfl rfl (Nat.le_of_ble_eq_true rfl) dX2_note_48 (kVM (fun s1 hS_s1 hF_s1 q11 => ?_))
          refine j_aload_n hx 1 dX2_note_51 rfl ?_
          refine g3_1 hx hG ha kf_RX2_11 dX2_note_52 ?_
          refine j_iload_n hx 0 dX2_note_55 rfl ?_
          refine j_iconst hx dX2_note_56 ?_
          refine j_iadd hx (r := v1 + 5) dX2_note_57 rfl ?_
          refine j_dup2 hx dX2_note_58 rfl rfl ?_
          have f12 := zaI (j := (v1 + 5).toNat) hS_s1 (zr (k := 1) (t2 := 53) hG ha rfl) rfl rfl (show 0 ≤ v1 + 5 by omega) (by omega) rfl
          refine j_lald hx hG (zr (k := 1) (t2 := 53) hG ha rfl) (by decide) rfl rfl (by omega) (by omega) (j := (v1 + 5).toNat) rfl rfl dX2_note_59 ?_
          refine j_aload_n hx 1 dX2_note_60 rfl ?_
          refine g3_0 hx hG ha kf_RX2_27 dX2_note_61 ?_
          have f13 := zf hS0 (zr (k := 0) (t2 := 4) hG ha rfl) (k := 10) rfl
          refine gN4_10 hx hG (zr (k := 0) (t2 := 4) hG ha rfl) kf_RX2_87 (v := (s0 (gP G a 0) 10)) (by rw [(zFr_g hF_s1 (zr (k := 0) (t2 := 4) hG ha rfl) (by decide))]) dX2_note_64 ?_
          refine j_iload_n hx 3 dX2_note_67 rfl ?_
          refine j_irem hx dX2_note_68 (by omega) (by omega) (by omega) (fun v14 f15 f16 f17 f18 => ?_)
          refine j_i2l hx dX2_note_69 (by omega) ?_
          refine j_bipush hx dX2_note_70 rfl ?_
          refine j_lshl hx dX2_note_72 (fun w20 f21 f22 => ?_)
          refine j_lor hx dX2_note_73 (fun w23 f24 f25 => ?_)
          refine j_last hx hG (zr (k := 1) (t2 := 53) hG ha rfl) (by decide) rfl rfl (by omega) (by omega) (j := (v1 + 5).toNat) rfl dX2_note_74 ?_
          obtain ⟨s2, e_s2⟩ : ∃ z, z = zU s1 (gP G a 1) (v1 + 5).toNat w23 := ⟨_, rfl⟩
          rw [← e_s2]
          have hS_s2 : zSK G s2 := by rw [e_s2]; exact zSK_A hS_s1 (zr (k := 1) (t2 := 53) hG ha rfl) rfl rfl rfl (by omega)
          refine j_aload_n hx 1 dX2_note_75 rfl ?_
          refine g3_1 hx hG ha kf_RX2_11 dX2_note_76 ?_
          refine j_iload_n hx 0 dX2_note_79 rfl ?_
          refine j_bipush hx dX2_note_80 rfl ?_
          refine j_iadd hx (r := v1 + 6) dX2_note_82 rfl ?_
          refine j_aload_n hx 1 dX2_note_83 rfl ?_
          refine g3_0 hx hG ha kf_RX2_27 dX2_note_84 ?_
          have f26 := zf hS0 (zr (k := 0) (t2 := 4) hG ha rfl) (k := 8) rfl
          refine gN4_8 hx hG (zr (k := 0) (t2 := 4) hG ha rfl) kf_RX2_90 (v := (s0 (gP G a 0) 8)) (by rw [e_s2, zU_at (Or.inl (zne (zr (k := 1) (t2 := 53) hG ha rfl) (zr (k := 0) (t2 := 4) hG ha rfl) (by decide))), (zFr_g hF_s1 (zr (k := 0) (t2 := 4) hG ha rfl) (by decide))]) dX2_note_87 ?_
          have c105_3 : ∀ (w27 : Int), ((-2147483648) ≤ w27 ∧ w27 ≤ 2147483647) → JJ X E 7 G s2 0 0 [(0, .ref a), (1, .int (zI x1)), (3, .int (zI v1))] 105 [.long (zL w27), .int (zI (v1 + 6)), .ref (gP G a 1)] := by
            intro w27 fA4
            refine j_last hx hG (zr (k := 1) (t2 := 53) hG ha rfl) (by decide) rfl rfl (by omega) (by omega) (j := (v1 + 6).toNat) rfl dX2_note_105 ?_
            obtain ⟨s5, e_s5⟩ : ∃ z, z = zU s2 (gP G a 1) (v1 + 6).toNat w27 := ⟨_, rfl⟩
            rw [← e_s5]
            have hS_s5 : zSK G s5 := by rw [e_s5]; exact zSK_A hS_s2 (zr (k := 1) (t2 := 53) hG ha rfl) rfl rfl rfl (by omega)
            refine j_aload_n hx 0 dX2_note_106 rfl ?_
            refine j_iload_n hx 2 dX2_note_107 rfl ?_
            refine j_callV hx hG (c_X2_slotOf hst a v1) lk_RX2_97 ha (by decide) rfl rfl rfl rfl [.int (zI v1)] ⟨rfl, hG, hS_s5, ha, (by omega)⟩ rfl rfl ⟨by decide, by decide⟩ ⟨by decide, by decide⟩ (k2 := 0) (n2 := 0) rfl rfl (Nat.le_of_ble_eq_true rfl) dX2_note_108 (kIP (fun v28 q29 => ?_))
            refine j_istore hx [(4, .int (zI v28)), (0, .ref a), (1, .int (zI x1)), (3, .int (zI v1))] dX2_note_111 (by decide) rfl ?_
            refine j_iload hx 0 dX2_note_113 rfl ?_
            refine j_if_lt hx 128 dX2_note_115 rfl (by omega) (fun h30 => ?_) (fun h30 => ?_)
            · skip
              refine j_iconst hx dX2_note_128 ?_
              exact j_iret hx hq rfl (by decide) (by decide) dX2_note_129 ⟨(-1), rfl, rfl, hS_s5, (zFr_u (zFr_u (zFr_t zFr_rf hF_s1 (by decide)) e_s2 (zr (k := 1) (t2 := 53) hG ha rfl) (by decide)) e_s5 (zr (k := 1) (t2 := 53) hG ha rfl) (by decide)), (by omega)⟩
            · skip
              refine j_iload hx 0 dX2_note_118 rfl ?_
              refine j_aload_n hx 1 dX2_note_120 rfl ?_
              refine g3_2 hx hG ha kf_RX2_15 dX2_note_121 ?_
              refine j_alen hx hG (zr (k := 2) (t2 := 54) hG ha rfl) (by decide) (by decide) (zlen hG (zr (k := 2) (t2 := 54) hG ha rfl) (n := 4096) rfl rfl) dX2_note_124 ?_
              refine j_icmp_lt hx 130 dX2_note_125 rfl (by omega) ⟨by decide, by decide⟩ (fun h31 => ?_) (fun h31 => ?_)
              · skip
                refine j_aload_n hx 1 dX2_note_130 rfl ?_
                refine g3_2 hx hG ha kf_RX2_15 dX2_note_131 ?_
                refine j_iload hx 0 dX2_note_134 rfl ?_
                have f32 := zaI (j := (v28).toNat) hS0 (zr (k := 2) (t2 := 54) hG ha rfl) rfl (zlen hG (zr (k := 2) (t2 := 54) hG ha rfl) (n := 4096) rfl rfl) (show 0 ≤ v28 by omega) (by omega) rfl
                refine j_iald hx hG (zr (k := 2) (t2 := 54) hG ha rfl) (by decide) rfl (zlen hG (zr (k := 2) (t2 := 54) hG ha rfl) (n := 4096) rfl rfl) (by omega) (by omega) (j := (v28).toNat) rfl (v := (s0 (gP G a 2) (v28).toNat)) (by rw [e_s5, zU_at (Or.inl (zne (zr (k := 1) (t2 := 53) hG ha rfl) (zr (k := 2) (t2 := 54) hG ha rfl) (by decide))), e_s2, zU_at (Or.inl (zne (zr (k := 1) (t2 := 53) hG ha rfl) (zr (k := 2) (t2 := 54) hG ha rfl) (by decide))), (zFr_g hF_s1 (zr (k := 2) (t2 := 54) hG ha rfl) (by decide))]) dX2_note_136 ?_
                refine j_istore hx [(5, .int (zI ((s0 (gP G a 2) (v28).toNat)))), (4, .int (zI v28)), (0, .ref a), (1, .int (zI x1)), (3, .int (zI v1))] dX2_note_137 (by decide) rfl ?_
                refine j_iconst hx dX2_note_139 ?_
                refine j_istore hx [(6, .int (zI 0)), (5, .int (zI ((s0 (gP G a 2) (v28).toNat)))), (4, .int (zI v28)), (0, .ref a), (1, .int (zI x1)), (3, .int (zI v1))] dX2_note_140 (by decide) rfl ?_
                have c142_6 : ∀ (m_c142_6 : Nat) (v33 : Int) (v34 : Int), 2147483648 - v34 < m_c142_6 → ((-2147483648) ≤ v33 ∧ v33 ≤ 2147483647) → (0 ≤ v34 ∧ v34 ≤ 3001) → JJ X E 7 G s5 0 0 [(0, .ref a), (1, .int (zI x1)), (3, .int (zI v1)), (4, .int (zI v28)), (5, .int (zI v33)), (6, .int (zI v34))] 142 [] := by
                  intro m_c142_6
                  induction m_c142_6 with
                  | zero => intro v33 v34 hm_c142_6 fA7 fA8; exfalso; omega
                  | succ m_c142_6 ih_c142_6 => 
                    intro v33 v34 hm_c142_6 fA7 fA8
                    refine j_iload hx 5 dX2_note_142 rfl ?_
                    refine j_sipush hx dX2_note_144 rfl ?_
                    have c196_9 : JJ X E 7 G s5 0 0 [(0, .ref a), (1, .int (zI x1)), (4, .int (zI v28))] 196 [] := by
                      refine j_aload_n hx 0 dX2_note_196 rfl ?_
                      refine g3_3 hx hG ha kf_RX2_19 dX2_note_197 ?_
                      refine j_iload_n hx 1 dX2_note_200 rfl ?_
                      refine j_aload_n hx 0 dX2_note_201 rfl ?_
                      refine g3_2 hx hG ha kf_RX2_15 dX2_note_202 ?_
                      refine j_iload hx 2 dX2_note_205 rfl ?_
                      refine j_iald hx hG (zr (k := 2) (t2 := 54) hG ha rfl) (by decide) rfl (zlen hG (zr (k := 2) (t2 := 54) hG ha rfl) (n := 4096) rfl rfl) (by omega) (by omega) (j := (v28).toNat) rfl (v := (s0 (gP G a 2) (v28).toNat)) (by rw [e_s5, zU_at (Or.inl (zne (zr (k := 1) (t2 := 53) hG ha rfl) (zr (k := 2) (t2 := 54) hG ha rfl) (by decide))), e_s2, zU_at (Or.inl (zne (zr (k := 1) (t2 := 53) hG ha rfl) (zr (k := 2) (t2 := 54) hG ha rfl) (by decide))), (zFr_g hF_s1 (zr (k := 2) (t2 := 54) hG ha rfl) (by decide))]) dX2_note_207 ?_
                      refine j_iast hx hG (zr (k := 3) (t2 := 55) hG ha rfl) (by decide) rfl (zlen hG (zr (k := 3) (t2 := 55) hG ha rfl) (n := 3001) rfl rfl) (by omega) (by omega) (j := (x1).toNat) rfl dX2_note_208 ?_
                      obtain ⟨s10, e_s10⟩ : ∃ z, z = zU s5 (gP G a 3) (x1).toNat ((s0 (gP G a 2) (v28).toNat)) := ⟨_, rfl⟩
                      rw [← e_s10]
                      have hS_s10 : zSK G s10 := by rw [e_s10]; exact zSK_A hS_s5 (zr (k := 3) (t2 := 55) hG ha rfl) rfl rfl rfl (by omega)
                      refine j_aload_n hx 0 dX2_note_209 rfl ?_
                      refine g3_2 hx hG ha kf_RX2_15 dX2_note_210 ?_
                      refine j_iload hx 2 dX2_note_213 rfl ?_
                      refine j_iload_n hx 1 dX2_note_215 rfl ?_
                      refine j_iast hx hG (zr (k := 2) (t2 := 54) hG ha rfl) (by decide) rfl (zlen hG (zr (k := 2) (t2 := 54) hG ha rfl) (n := 4096) rfl rfl) (by omega) (by omega) (j := (v28).toNat) rfl dX2_note_216 ?_
                      obtain ⟨s11, e_s11⟩ : ∃ z, z = zU s10 (gP G a 2) (v28).toNat x1 := ⟨_, rfl⟩
                      rw [← e_s11]
                      have hS_s11 : zSK G s11 := by rw [e_s11]; exact zSK_A hS_s10 (zr (k := 2) (t2 := 54) hG ha rfl) rfl rfl rfl (by omega)
                      refine j_iconst hx dX2_note_217 ?_
                      exact j_iret hx hq rfl (by decide) (by decide) dX2_note_218 ⟨(-1), rfl, rfl, hS_s11, (zFr_u (zFr_u (zFr_u (zFr_u (zFr_t zFr_rf hF_s1 (by decide)) e_s2 (zr (k := 1) (t2 := 53) hG ha rfl) (by decide)) e_s5 (zr (k := 1) (t2 := 53) hG ha rfl) (by decide)) e_s10 (zr (k := 3) (t2 := 55) hG ha rfl) (by decide)) e_s11 (zr (k := 2) (t2 := 54) hG ha rfl) (by decide)), (by omega)⟩
                    refine j_icmp_gt hx 196 dX2_note_147 rfl (by omega) ⟨by decide, by decide⟩ (fun h35 => ?_) (fun h35 => ?_)
                    · skip
                      exact j_sub [0, 1, 3] [(0, .ref a), (1, .int (zI x1)), (4, .int (zI v28))] rfl (c196_9  )
                    · skip
                      refine j_iload hx 4 dX2_note_150 rfl ?_
                      refine j_if_lt hx 196 dX2_note_152 rfl (by omega) (fun h36 => ?_) (fun h36 => ?_)
                      · skip
                        exact j_sub [0, 1, 3] [(0, .ref a), (1, .int (zI x1)), (4, .int (zI v28))] rfl (c196_9  )
                      · skip
                        refine j_iload hx 4 dX2_note_155 rfl ?_
                        refine j_aload_n hx 0 dX2_note_157 rfl ?_
                        refine g3_3 hx hG ha kf_RX2_19 dX2_note_158 ?_
                        refine j_alen hx hG (zr (k := 3) (t2 := 55) hG ha rfl) (by decide) (by decide) (zlen hG (zr (k := 3) (t2 := 55) hG ha rfl) (n := 3001) rfl rfl) dX2_note_161 ?_
                        refine j_icmp_ge hx 196 dX2_note_162 rfl (by omega) ⟨by decide, by decide⟩ (fun h37 => ?_) (fun h37 => ?_)
                        · skip
                          exact j_sub [0, 1, 3] [(0, .ref a), (1, .int (zI x1)), (4, .int (zI v28))] rfl (c196_9  )
                        · skip
                          refine j_aload_n hx 0 dX2_note_165 rfl ?_
                          refine j_iload hx 4 dX2_note_166 rfl ?_
                          refine j_bipush hx dX2_note_168 rfl ?_
                          refine j_imul hx (r := 7 * v33) dX2_note_170 (by omega) ?_
                          refine j_iload_n hx 2 dX2_note_171 rfl ?_
                          refine j_callV hx hG (c_X2_isSame hst a (7 * v33) v1) lk_RX2_101 ha (by decide) rfl rfl rfl rfl [.int (zI (7 * v33)), .int (zI v1)] ⟨rfl, hG, hS_s5, ha, (by omega), (by omega)⟩ rfl rfl ⟨by decide, by decide⟩ ⟨by decide, by decide⟩ (k2 := 0) (n2 := 0) rfl rfl (Nat.le_of_ble_eq_true rfl) dX2_note_172 (kIP (fun v38 q39 => ?_))
                          refine j_if_eq hx 181 dX2_note_175 rfl (by omega) (fun h40 => ?_) (fun h40 => ?_)
                          · skip
                            refine j_aload_n hx 0 dX2_note_181 rfl ?_
                            refine g3_3 hx hG ha kf_RX2_19 dX2_note_182 ?_
                            refine j_iload hx 4 dX2_note_185 rfl ?_
                            have f41 := zaI (j := (v33).toNat) hS0 (zr (k := 3) (t2 := 55) hG ha rfl) rfl (zlen hG (zr (k := 3) (t2 := 55) hG ha rfl) (n := 3001) rfl rfl) (show 0 ≤ v33 by omega) (by omega) rfl
                            refine j_iald hx hG (zr (k := 3) (t2 := 55) hG ha rfl) (by decide) rfl (zlen hG (zr (k := 3) (t2 := 55) hG ha rfl) (n := 3001) rfl rfl) (by omega) (by omega) (j := (v33).toNat) rfl (v := (s0 (gP G a 3) (v33).toNat)) (by rw [e_s5, zU_at (Or.inl (zne (zr (k := 1) (t2 := 53) hG ha rfl) (zr (k := 3) (t2 := 55) hG ha rfl) (by decide))), e_s2, zU_at (Or.inl (zne (zr (k := 1) (t2 := 53) hG ha rfl) (zr (k := 3) (t2 := 55) hG ha rfl) (by decide))), (zFr_g hF_s1 (zr (k := 3) (t2 := 55) hG ha rfl) (by decide))]) dX2_note_187 ?_
                            refine j_istore hx [(5, .int (zI ((s0 (gP G a 3) (v33).toNat)))), (0, .ref a), (1, .int (zI x1)), (3, .int (zI v1)), (4, .int (zI v28)), (6, .int (zI v34))] dX2_note_188 (by decide) rfl ?_
                            refine j_iinc hx 5 [(6, .int (zI (v34 + 1))), (5, .int (zI ((s0 (gP G a 3) (v33).toNat)))), (0, .ref a), (1, .int (zI x1)), (3, .int (zI v1)), (4, .int (zI v28))] dX2_note_190 rfl (by omega) (by decide) rfl ?_
                            refine j_goto hx 142 dX2_note_193 rfl ?_
                            exact j_sub [2, 3, 4, 5, 1, 0] [(0, .ref a), (1, .int (zI x1)), (3, .int (zI v1)), (4, .int (zI v28)), (5, .int (zI ((s0 (gP G a 3) (v33).toNat)))), (6, .int (zI (v34 + 1)))] rfl (ih_c142_6 ((s0 (gP G a 3) (v33).toNat)) (v34 + 1) (by omega) (by omega) (by omega))
                          · skip
                            refine j_iload hx 4 dX2_note_178 rfl ?_
                            exact j_iret hx hq rfl (by decide) (by decide) dX2_note_180 ⟨v33, rfl, rfl, hS_s5, (zFr_u (zFr_u (zFr_t zFr_rf hF_s1 (by decide)) e_s2 (zr (k := 1) (t2 := 53) hG ha rfl) (by decide)) e_s5 (zr (k := 1) (t2 := 53) hG ha rfl) (by decide)), (by omega)⟩
                exact j_sub [3, 4, 5, 2, 1, 0] [(0, .ref a), (1, .int (zI x1)), (3, .int (zI v1)), (4, .int (zI v28)), (5, .int (zI ((s0 (gP G a 2) (v28).toNat)))), (6, .int (zI 0))] rfl (c142_6 (2147483648 * 4) ((s0 (gP G a 2) (v28).toNat)) 0 (by omega) (by omega) (by omega))
              · skip
                refine j_iconst hx dX2_note_128 ?_
                exact j_iret hx hq rfl (by decide) (by decide) dX2_note_129 ⟨(-1), rfl, rfl, hS_s5, (zFr_u (zFr_u (zFr_t zFr_rf hF_s1 (by decide)) e_s2 (zr (k := 1) (t2 := 53) hG ha rfl) (by decide)) e_s5 (zr (k := 1) (t2 := 53) hG ha rfl) (by decide)), (by omega)⟩
          refine j_if_eq hx 104 dX2_note_90 rfl (by omega) (fun h42 => ?_) (fun h42 => ?_)
          · skip
            refine j_lconst hx dX2_note_104 ?_
            show JJ X E 7 G s2 0 0 [(3, .int (zI v1)), (0, .ref a), (1, .int (zI x1)), (2, .int (zI x2))] 105 [.long (zL 0), .int (zI (v1 + 6)), .ref (gP G a 1)]
            exact j_sub [1, 2, 0] [(0, .ref a), (1, .int (zI x1)), (3, .int (zI v1))] rfl (c105_3 0 (by omega))
          · skip
            refine j_aload_n hx 1 dX2_note_93 rfl ?_
            refine g3_0 hx hG ha kf_RX2_27 dX2_note_94 ?_
            have f43 := zf hS0 (zr (k := 0) (t2 := 4) hG ha rfl) (k := 9) rfl
            refine gN4_9 hx hG (zr (k := 0) (t2 := 4) hG ha rfl) kf_RX2_94 (v := (s0 (gP G a 0) 9)) (by rw [e_s2, zU_at (Or.inl (zne (zr (k := 1) (t2 := 53) hG ha rfl) (zr (k := 0) (t2 := 4) hG ha rfl) (by decide))), (zFr_g hF_s1 (zr (k := 0) (t2 := 4) hG ha rfl) (by decide))]) dX2_note_97 ?_
            refine j_i2l hx dX2_note_100 (by omega) ?_
            refine j_goto hx 105 dX2_note_101 rfl ?_
            exact j_sub [1, 2, 0] [(0, .ref a), (1, .int (zI x1)), (3, .int (zI v1))] rfl (c105_3 ((s0 (gP G a 0) 9)) (by omega))
        · skip
          refine j_iconst hx dX2_note_34 ?_
          exact j_iret hx hq rfl (by decide) (by decide) dX2_note_35 ⟨(-1), rfl, rfl, hS0, zFr_rf, (by omega)⟩

set_option maxHeartbeats 4000000 in
set_option maxRecDepth 20000 in
theorem c_X0_leftOne {E : zE} {l : Launch} (hst : l.stackTraces = false) (a : Nat) : Con E l yX0_leftOne cX0_leftOne 1 (some .int) { frames := 2, cells := 0, slots := 0, locals := 45 } (fun G s vs => vs = [.ref a] ∧ zGK G ∧ zSK G s ∧ (gT G a = 1)) (fun G s _ => pI (fun r G2 s2 => G2 = G ∧ s2 = s ∧ ((-1) ≤ r ∧ r ≤ 2))) := by
  refine Con.mk hst (by decide) (fun G s vs h => by rw [h.1]; exact Nat.le_of_ble_eq_true rfl) ?_
  rintro X G s0 vs ⟨rfl, hG, hS0, ha⟩ rfl hx hq
  show JJ X E 1 G s0 0 0 [(0, .ref a)] 0 []
  refine j_aload_n hx 0 dX0_leftOne_0 rfl ?_
  refine j_callV hx hG (c_X0_remaining hst a) lk_RX0_68 ha (by decide) rfl rfl rfl rfl [] ⟨rfl, hG, hS0, ha⟩ rfl rfl ⟨by decide, by decide⟩ ⟨by decide, by decide⟩ (k2 := 0) (n2 := 0) rfl rfl (Nat.le_of_ble_eq_true rfl) dX0_leftOne_1 (kIP (fun v1 q2 => ?_))
  refine j_iconst hx dX0_leftOne_4 ?_
  refine j_icmp_ne hx 20 dX0_leftOne_5 rfl (by omega) ⟨by decide, by decide⟩ (fun h3 => ?_) (fun h3 => ?_)
  · skip
    refine j_iconst hx dX0_leftOne_20 ?_
    exact j_iret hx hq rfl (by decide) (by decide) dX0_leftOne_21 ⟨(-1), rfl, rfl, rfl, (by omega)⟩
  · skip
    refine j_aload_n hx 0 dX0_leftOne_8 rfl ?_
    refine j_iconst hx dX0_leftOne_9 ?_
    refine j_aload_n hx 0 dX0_leftOne_10 rfl ?_
    have f4 := zf hS0 ha (k := 7) rfl
    refine g1_7 hx hG ha kf_RX0_50 rfl dX0_leftOne_11 ?_
    refine j_callV hx hG (c_X0_firstIn hst a 0 ((s0 a 7))) lk_RX0_64 ha (by decide) rfl rfl rfl rfl [.int (zI 0), .int (zI ((s0 a 7)))] ⟨rfl, hG, hS0, ha, (by omega), (by omega)⟩ rfl rfl ⟨by decide, by decide⟩ ⟨by decide, by decide⟩ (k2 := 0) (n2 := 0) rfl rfl (Nat.le_of_ble_eq_true rfl) dX0_leftOne_14 (kIP (fun v5 q6 => ?_))
    refine j_goto hx 21 dX0_leftOne_17 rfl ?_
    exact j_iret hx hq rfl (by decide) (by decide) dX0_leftOne_21 ⟨v5, rfl, rfl, rfl, (by omega)⟩

theorem lk_RX2_35 : LkV RX2 35 RX3 yX3_cycle cX3_cycle 4 (some .int) 0 := ⟨km_RX2_35, ki_yX3_cycle, ks_RX3_yX3_cycle, kn_RX3, kc_yX3_cycle, rfl, by decide +kernel, by decide +kernel, by decide +kernel⟩
theorem lk_RX2_45 : LkS RX2 45 yJ7_fill_53178 cJ7_fill_53178 4 none 2 := ⟨km_RX2_45, kst_yJ7_fill_53178, kn_RJ7, kc_yJ7_fill_53178, by decide +kernel, by decide +kernel, by decide +kernel⟩
theorem lk_RX2_77 : LkV RX2 77 RX0 yX0_leftOne cX0_leftOne 1 (some .int) 0 := ⟨km_RX2_77, ki_yX0_leftOne, ks_RX0_yX0_leftOne, kn_RX0, kc_yX0_leftOne, rfl, by decide +kernel, by decide +kernel, by decide +kernel⟩
theorem lk_RX2_65 : LkV RX2 65 RX0 yX0_whose cX0_whose 1 (some .int) 0 := ⟨km_RX2_65, ki_yX0_whose, ks_RX0_yX0_whose, kn_RX0, kc_yX0_whose, rfl, by decide +kernel, by decide +kernel, by decide +kernel⟩
theorem lk_RX2_70 : LkV RX2 70 RX2 yX2_note cX2_note 7 (some .int) 2 := ⟨km_RX2_70, ki_yX2_note, ks_RX2_yX2_note, kn_RX2, kc_yX2_note, rfl, by decide +kernel, by decide +kernel, by decide +kernel⟩
theorem lk_RX2_73 : LkV RX2 73 RX3 yX3_playTurn cX3_playTurn 3 (some .boolean) 0 := ⟨km_RX2_73, ki_yX3_playTurn, ks_RX3_yX3_playTurn, kn_RX3, kc_yX3_playTurn, rfl, by decide +kernel, by decide +kernel, by decide +kernel⟩
set_option maxHeartbeats 4000000 in
set_option maxRecDepth 20000 in
theorem c_X2_run {E : zE} {l : Launch} (hst : l.stackTraces = false) (a : Nat) : Con E l yX2_run cX2_run 4 none { frames := 6, cells := 0, slots := 0, locals := 143 } (fun G s vs => vs = [.ref a] ∧ zGK G ∧ zSK G s ∧ (gT G a = 3)) (fun G s _ => pV (fun G2 s2 => G2 = G ∧ zSK G s2 ∧ zFr [1, 3, 4, 7, 41, 50, 51, 52, 53, 54, 55] G s s2 ∧ True)) := by
  refine Con.mk hst (by decide) (fun G s vs h => by rw [h.1]; exact Nat.le_of_ble_eq_true rfl) ?_
  rintro X G s0 vs ⟨rfl, hG, hS0, ha⟩ rfl hx hq
  show JJ X E 4 G s0 0 0 [(0, .ref a)] 0 []
  refine j_iconst hx dX2_run_0 ?_
  refine j_aload_n hx 0 dX2_run_1 rfl ?_
  refine g3_0 hx hG ha kf_RX2_27 dX2_run_2 ?_
  refine j_callV hx hG (c_X3_cycle hst (gP G a 0)) lk_RX2_35 (zr (k := 0) (t2 := 4) hG ha rfl) (by decide) rfl rfl rfl rfl [] ⟨rfl, hG, hS0, (zr (k := 0) (t2 := 4) hG ha rfl)⟩ rfl rfl ⟨by decide, by decide⟩ ⟨by decide, by decide⟩ (k2 := 0) (n2 := 0) rfl rfl (Nat.le_of_ble_eq_true rfl) dX2_run_5 (kIP (fun v1 q2 => ?_))
  refine j_mmax hx km_RX2_39 kst_max kn_RJ9 kc_Lib_Math_max_name ⟨by decide, by decide⟩ (by omega) ⟨by decide, Nat.le_of_ble_eq_true rfl⟩ ⟨by decide, by decide⟩ dX2_run_8 (fun v3 f4 f5 f6 => ?_)
  refine j_istore_n hx [(1, .int (zI v3)), (0, .ref a)] dX2_run_11 (by decide) rfl ?_
  refine j_aload_n hx 1 dX2_run_12 rfl ?_
  refine g3_2 hx hG ha kf_RX2_15 dX2_run_13 ?_
  refine j_iconst hx dX2_run_16 ?_
  refine j_callS hx (c_fill_54m hst (gP G a 2) (-1)) lk_RX2_45 [.ref (gP G a 2), .int (zI (-1))] ⟨rfl, hG, hS0, (zr (k := 2) (t2 := 54) hG ha rfl), (by omega)⟩ rfl rfl ⟨by decide, by decide⟩ ⟨by decide, by decide⟩ (k2 := 0) (n2 := 0) rfl rfl (Nat.le_of_ble_eq_true rfl) dX2_run_17 (kVM (fun s1 hS_s1 hF_s1 q8 => ?_))
  refine j_aload_n hx 1 dX2_run_20 rfl ?_
  refine j_iconst hx dX2_run_21 ?_
  refine p3_6 hx hG ha kf_RX2_51 dX2_run_22 ?_
  obtain ⟨s2, e_s2⟩ : ∃ z, z = zU s1 a 6 0 := ⟨_, rfl⟩
  rw [← e_s2]
  have hS_s2 : zSK G s2 := by rw [e_s2]; exact zSK_F hS_s1 ha rfl rfl rfl (by omega)
  refine j_aload_n hx 1 dX2_run_25 rfl ?_
  refine j_iconst hx dX2_run_26 ?_
  refine p3_7 hx hG ha kf_RX2_55 dX2_run_27 ?_
  obtain ⟨s3, e_s3⟩ : ∃ z, z = zU s2 a 7 0 := ⟨_, rfl⟩
  rw [← e_s3]
  have hS_s3 : zSK G s3 := by rw [e_s3]; exact zSK_F hS_s2 ha rfl rfl rfl (by omega)
  refine j_aload_n hx 1 dX2_run_30 rfl ?_
  refine j_iconst hx dX2_run_31 ?_
  refine p3_5 hx hG ha kf_RX2_58 dX2_run_32 ?_
  obtain ⟨s4, e_s4⟩ : ∃ z, z = zU s3 a 5 0 := ⟨_, rfl⟩
  rw [← e_s4]
  have hS_s4 : zSK G s4 := by rw [e_s4]; exact zSK_F hS_s3 ha rfl rfl rfl (by omega)
  refine j_iconst hx dX2_run_35 ?_
  refine j_istore_n hx [(2, .int (zI 0)), (1, .int (zI v3)), (0, .ref a)] dX2_run_36 (by decide) rfl ?_
  have c37_5 : ∀ (m_c37_5 : Nat) (v9 : Int) (s6 : zS), 2147483648 - v9 < m_c37_5 → (0 ≤ v9 ∧ v9 ≤ 3001) → (zSK G s6) → (zFr [1, 3, 4, 7, 41, 50, 51, 52, 53, 54, 55] G s4 s6) → JJ X E 4 G s6 0 0 [(0, .ref a), (1, .int (zI v3)), (2, .int (zI v9))] 37 [] := by
    intro m_c37_5
    induction m_c37_5 with
    | zero => intro v9 s6 hm_c37_5 fA7 hS_s6 hF_s6; exfalso; omega
    | succ m_c37_5 ih_c37_5 => 
      intro v9 s6 hm_c37_5 fA7 hS_s6 hF_s6
      refine j_iload_n hx 2 dX2_run_37 rfl ?_
      refine j_sipush hx dX2_run_38 rfl ?_
      have c126_10 : ∀ (s11 : zS), (zSK G s11) → (zFr [3] G s6 s11) → JJ X E 4 G s11 0 0 [(0, .ref a)] 126 [] := by
        intro s11 hS_s11 hF_s11
        refine j_aload_n hx 0 dX2_run_126 rfl ?_
        refine j_aload_n hx 0 dX2_run_127 rfl ?_
        have f10 := zf hS_s11 ha (k := 6) rfl
        refine g3_6 hx hG ha kf_RX2_51 rfl dX2_run_128 ?_
        refine j_iconst hx dX2_run_131 ?_
        refine j_icmp_ne hx 148 dX2_run_132 rfl (by omega) ⟨by decide, by decide⟩ (fun h11 => ?_) (fun h11 => ?_)
        · skip
          refine j_iconst hx dX2_run_148 ?_
          refine p3_4 hx hG ha kf_RX2_80 dX2_run_149 ?_
          obtain ⟨s14, e_s14⟩ : ∃ z, z = zU s11 a 4 (-1) := ⟨_, rfl⟩
          rw [← e_s14]
          have hS_s14 : zSK G s14 := by rw [e_s14]; exact zSK_F hS_s11 ha rfl rfl rfl (by omega)
          exact j_vret hx hq rfl (by decide) (by decide) dX2_run_152 ⟨rfl, rfl, hS_s14, (zFr_u (zFr_t (zFr_t (zFr_u (zFr_u (zFr_u (zFr_t zFr_rf hF_s1 (by decide)) e_s2 ha (by decide)) e_s3 ha (by decide)) e_s4 ha (by decide)) hF_s6 (by decide)) hF_s11 (by decide)) e_s14 ha (by decide)), trivial⟩
        · skip
          refine j_aload_n hx 0 dX2_run_135 rfl ?_
          refine g3_0 hx hG ha kf_RX2_27 dX2_run_136 ?_
          refine gN4_1 hx hG (zr (k := 0) (t2 := 4) hG ha rfl) kf_RX2_61 dX2_run_139 ?_
          refine j_callV hx hG (c_X0_leftOne hst (gP G (gP G a 0) 1)) lk_RX2_77 (zr (k := 1) (t2 := 1) hG (zr (k := 0) (t2 := 4) hG ha rfl) rfl) (by decide) rfl rfl rfl rfl [] ⟨rfl, hG, hS_s11, (zr (k := 1) (t2 := 1) hG (zr (k := 0) (t2 := 4) hG ha rfl) rfl)⟩ rfl rfl ⟨by decide, by decide⟩ ⟨by decide, by decide⟩ (k2 := 0) (n2 := 0) rfl rfl (Nat.le_of_ble_eq_true rfl) dX2_run_142 (kIP (fun v12 q13 => ?_))
          refine j_goto hx 149 dX2_run_145 rfl ?_
          refine p3_4 hx hG ha kf_RX2_80 dX2_run_149 ?_
          obtain ⟨s15, e_s15⟩ : ∃ z, z = zU s11 a 4 v12 := ⟨_, rfl⟩
          rw [← e_s15]
          have hS_s15 : zSK G s15 := by rw [e_s15]; exact zSK_F hS_s11 ha rfl rfl rfl (by omega)
          exact j_vret hx hq rfl (by decide) (by decide) dX2_run_152 ⟨rfl, rfl, hS_s15, (zFr_u (zFr_t (zFr_t (zFr_u (zFr_u (zFr_u (zFr_t zFr_rf hF_s1 (by decide)) e_s2 ha (by decide)) e_s3 ha (by decide)) e_s4 ha (by decide)) hF_s6 (by decide)) hF_s11 (by decide)) e_s15 ha (by decide)), trivial⟩
      refine j_icmp_gt hx 126 dX2_run_41 rfl (by omega) ⟨by decide, by decide⟩ (fun h14 => ?_) (fun h14 => ?_)
      · skip
        exact j_sub [0] [(0, .ref a)] rfl (c126_10 s6 hS_s6 zFr_rf)
      · skip
        refine j_aload_n hx 0 dX2_run_44 rfl ?_
        have f15 := zf hS_s6 ha (k := 6) rfl
        refine g3_6 hx hG ha kf_RX2_51 rfl dX2_run_45 ?_
        refine j_if_ne hx 126 dX2_run_48 rfl (by omega) (fun h16 => ?_) (fun h16 => ?_)
        · skip
          exact j_sub [0] [(0, .ref a)] rfl (c126_10 s6 hS_s6 zFr_rf)
        · skip
          refine j_aload_n hx 0 dX2_run_51 rfl ?_
          refine j_iload_n hx 2 dX2_run_52 rfl ?_
          refine p3_5 hx hG ha kf_RX2_58 dX2_run_53 ?_
          obtain ⟨s16, e_s16⟩ : ∃ z, z = zU s6 a 5 v9 := ⟨_, rfl⟩
          rw [← e_s16]
          have hS_s16 : zSK G s16 := by rw [e_s16]; exact zSK_F hS_s6 ha rfl rfl rfl (by omega)
          refine j_aload_n hx 0 dX2_run_56 rfl ?_
          refine g3_0 hx hG ha kf_RX2_27 dX2_run_57 ?_
          refine gN4_1 hx hG (zr (k := 0) (t2 := 4) hG ha rfl) kf_RX2_61 dX2_run_60 ?_
          refine j_callV hx hG (c_X0_whose hst (gP G (gP G a 0) 1)) lk_RX2_65 (zr (k := 1) (t2 := 1) hG (zr (k := 0) (t2 := 4) hG ha rfl) rfl) (by decide) rfl rfl rfl rfl [] ⟨rfl, hG, hS_s16, (zr (k := 1) (t2 := 1) hG (zr (k := 0) (t2 := 4) hG ha rfl) rfl)⟩ rfl rfl ⟨by decide, by decide⟩ ⟨by decide, by decide⟩ (k2 := 0) (n2 := 0) rfl rfl (Nat.le_of_ble_eq_true rfl) dX2_run_63 (kIP (fun v17 q18 => ?_))
          refine j_iconst hx dX2_run_66 ?_
          refine j_icmp_ne hx 78 dX2_run_67 rfl (by omega) ⟨by decide, by decide⟩ (fun h19 => ?_) (fun h19 => ?_)
          · skip
            refine j_aload_n hx 0 dX2_run_78 rfl ?_
            refine j_iload_n hx 2 dX2_run_79 rfl ?_
            refine j_iload_n hx 1 dX2_run_80 rfl ?_
            refine j_callV hx hG (c_X2_note hst a v9 v3) lk_RX2_70 ha (by decide) rfl rfl rfl rfl [.int (zI v9), .int (zI v3)] ⟨rfl, hG, hS_s16, ha, (by omega), (by omega)⟩ rfl rfl ⟨by decide, by decide⟩ ⟨by decide, by decide⟩ (k2 := 0) (n2 := 0) rfl rfl (Nat.le_of_ble_eq_true rfl) dX2_run_81 (kIM (fun v20 s17 hS_s17 hF_s17 q21 => ?_))
            refine j_istore_n hx [(3, .int (zI v20)), (0, .ref a), (1, .int (zI v3)), (2, .int (zI v9))] dX2_run_84 (by decide) rfl ?_
            refine j_iload_n hx 0 dX2_run_85 rfl ?_
            refine j_iconst hx dX2_run_86 ?_
            have c120_18 : ∀ (s19 : zS), (zSK G s19) → (zFr [1, 3, 4, 7, 41, 50, 51, 52] G s17 s19) → JJ X E 4 G s19 0 0 [(0, .ref a), (1, .int (zI v3)), (2, .int (zI v9))] 120 [] := by
              intro s19 hS_s19 hF_s19
              refine j_iinc hx 2 [(2, .int (zI (v9 + 1))), (0, .ref a), (1, .int (zI v3))] dX2_run_120 rfl (by omega) (by decide) rfl ?_
              refine j_goto hx 37 dX2_run_123 rfl ?_
              exact j_sub [1, 2, 0] [(0, .ref a), (1, .int (zI v3)), (2, .int (zI (v9 + 1)))] rfl (ih_c37_5 (v9 + 1) s19 (by omega) (by omega) hS_s19 (zFr_t (zFr_t (zFr_u (zFr_t zFr_rf hF_s6 (by decide)) e_s16 ha (by decide)) hF_s17 (by decide)) hF_s19 (by decide)))
            refine j_icmp_eq hx 105 dX2_run_87 rfl (by omega) ⟨by decide, by decide⟩ (fun h22 => ?_) (fun h22 => ?_)
            · skip
              refine j_iload_n hx 3 dX2_run_105 rfl ?_
              refine j_sipush hx dX2_run_106 rfl ?_
              refine j_icmp_ge hx 120 dX2_run_109 rfl (by omega) ⟨by decide, by decide⟩ (fun h23 => ?_) (fun h23 => ?_)
              · skip
                exact j_sub [1, 2, 3] [(0, .ref a), (1, .int (zI v3)), (2, .int (zI v9))] rfl (c120_18 s17 hS_s17 zFr_rf)
              · skip
                refine j_aload_n hx 1 dX2_run_112 rfl ?_
                refine g3_0 hx hG ha kf_RX2_27 dX2_run_113 ?_
                refine j_callV hx hG (c_X3_playTurn hst (gP G a 0)) lk_RX2_73 (zr (k := 0) (t2 := 4) hG ha rfl) (by decide) rfl rfl rfl rfl [] ⟨rfl, hG, hS_s17, (zr (k := 0) (t2 := 4) hG ha rfl)⟩ rfl rfl ⟨by decide, by decide⟩ ⟨by decide, by decide⟩ (k2 := 0) (n2 := 0) rfl rfl (Nat.le_of_ble_eq_true rfl) dX2_run_116 (kIM (fun v24 s22 hS_s22 hF_s22 q25 => ?_))
                refine j_pop hx dX2_run_119 rfl ?_
                exact j_sub [1, 2, 3] [(0, .ref a), (1, .int (zI v3)), (2, .int (zI v9))] rfl (c120_18 s22 hS_s22 (zFr_t zFr_rf hF_s22 (by decide)))
            · skip
              refine j_aload_n hx 1 dX2_run_90 rfl ?_
              refine j_iconst hx dX2_run_91 ?_
              refine p3_6 hx hG ha kf_RX2_51 dX2_run_92 ?_
              obtain ⟨s23, e_s23⟩ : ∃ z, z = zU s17 a 6 2 := ⟨_, rfl⟩
              rw [← e_s23]
              have hS_s23 : zSK G s23 := by rw [e_s23]; exact zSK_F hS_s17 ha rfl rfl rfl (by omega)
              refine j_aload_n hx 1 dX2_run_95 rfl ?_
              refine j_iload_n hx 3 dX2_run_96 rfl ?_
              refine j_iload_n hx 0 dX2_run_97 rfl ?_
              refine j_isub hx (r := v9 - v20) dX2_run_98 rfl ?_
              refine j_norm (fun v26 f27 f28 f29 => ?_)
              refine p3_7 hx hG ha kf_RX2_55 dX2_run_99 ?_
              obtain ⟨s24, e_s24⟩ : ∃ z, z = zU s23 a 7 v26 := ⟨_, rfl⟩
              rw [← e_s24]
              have hS_s24 : zSK G s24 := by rw [e_s24]; exact zSK_F hS_s23 ha rfl rfl rfl (by omega)
              refine j_goto hx 120 dX2_run_102 rfl ?_
              exact j_sub [1, 2, 3] [(0, .ref a), (1, .int (zI v3)), (2, .int (zI v9))] rfl (c120_18 s24 hS_s24 (zFr_u (zFr_u zFr_rf e_s23 ha (by decide)) e_s24 ha (by decide)))
          · skip
            refine j_aload_n hx 0 dX2_run_70 rfl ?_
            refine j_iconst hx dX2_run_71 ?_
            refine p3_6 hx hG ha kf_RX2_51 dX2_run_72 ?_
            obtain ⟨s25, e_s25⟩ : ∃ z, z = zU s16 a 6 1 := ⟨_, rfl⟩
            rw [← e_s25]
            have hS_s25 : zSK G s25 := by rw [e_s25]; exact zSK_F hS_s16 ha rfl rfl rfl (by omega)
            refine j_goto hx 126 dX2_run_75 rfl ?_
            exact j_sub [0] [(0, .ref a)] rfl (c126_10 s25 hS_s25 (zFr_u (zFr_u zFr_rf e_s16 ha (by decide)) e_s25 ha (by decide)))
  exact j_sub [2, 1, 0] [(0, .ref a), (1, .int (zI v3)), (2, .int (zI 0))] rfl (c37_5 (2147483648 * 4) 0 s4 (by omega) (by omega) hS_s4 zFr_rf)

theorem lk_RX11_237 : LkV RX11 237 RX2 yX2_begin cX2_begin 2 none 1 := ⟨km_RX11_237, ki_yX2_begin, ks_RX2_yX2_begin, kn_RX2, kc_yX2_begin, rfl, by decide +kernel, by decide +kernel, by decide +kernel⟩
theorem lk_RX11_240 : LkV RX11 240 RX2 yX2_run cX2_run 4 none 0 := ⟨km_RX11_240, ki_yX2_run, ks_RX2_yX2_run, kn_RX2, kc_yX2_run, rfl, by decide +kernel, by decide +kernel, by decide +kernel⟩
set_option maxHeartbeats 4000000 in
set_option maxRecDepth 20000 in
theorem c_X11_ends {E : zE} {l : Launch} (hst : l.stackTraces = false) (a : Nat) (x1 : Int) : ConX E l yX11_ends cX11_ends 2 (some .int) { frames := 7, cells := 1, slots := 6, locals := 166 } (fun G s vs => vs = [.ref a, .int (zI x1)] ∧ zGK G ∧ zSK G s ∧ (gT G a = 12) ∧ ((-2147483648) ≤ x1 ∧ x1 ≤ 2147483647)) (fun G s _ => pI (fun r G2 s2 => G2 = G ∧ zSK G s2 ∧ zFr [1, 3, 4, 7, 41, 44, 49, 50, 51, 52, 53, 54, 55] G s s2 ∧ ((-2147483648) ≤ r ∧ r ≤ 2147483647))) (fun G s _ Ex G2 s2 => G2 = G ∧ zSK G s2 ∧ zFr [1, 3, 4, 7, 12, 41, 44, 49, 50, 51, 52, 53, 54, 55] G s s2 ∧ ((Ex = "java/lang/IllegalArgumentException" ∧ (True)))) := by
  refine ConX.mk hst (by decide) (fun G s vs h => by rw [h.1]; exact Nat.le_of_ble_eq_true rfl) ?_
  rintro X G s0 vs ⟨rfl, hG, hS0, ha, hx1⟩ rfl hx hq
  show JJ X E 2 G s0 0 0 [(0, .ref a), (1, .int (zI x1))] 0 []
  refine j_aload_n hx 0 dX11_ends_0 rfl ?_
  refine j_iload_n hx 1 dX11_ends_1 rfl ?_
  refine j_iconst hx dX11_ends_2 ?_
  refine j_iconst hx dX11_ends_3 ?_
  refine j_callVX hx hq hG (c_X11_needRange hst a x1 0 3) lk_RX11_98 ha (by decide) rfl rfl rfl rfl [.int (zI x1), .int (zI 0), .int (zI 3)] ⟨rfl, hG, hS0, ha, (by omega), (by omega), (by omega)⟩ rfl rfl ⟨by decide, by decide⟩ ⟨by decide, by decide⟩ (k2 := 1) (n2 := 6) rfl rfl (Nat.le_of_ble_eq_true rfl) ⟨by decide, by decide⟩ dX11_ends_4 (by rintro Ex9 G9 s9 ⟨rfl, hS9, hF9, e9, c9⟩; exact ⟨rfl, hS9, (zFr_t zFr_rf hF9 (by decide)), ⟨e9, by first | trivial | omega⟩⟩) (kVP (fun q2 => ?_))
  refine j_aload_n hx 0 dX11_ends_7 rfl ?_
  refine g12_7 hx hG ha kf_RX11_55 dX11_ends_8 ?_
  refine j_aload_n hx 0 dX11_ends_11 rfl ?_
  refine g12_6 hx hG ha kf_RX11_48 dX11_ends_12 ?_
  refine j_callV hx hG (c_X2_begin hst (gP G a 7) (gP G a 6)) lk_RX11_237 (zr (k := 7) (t2 := 3) hG ha rfl) (by decide) rfl rfl rfl rfl [.ref (gP G a 6)] ⟨rfl, hG, hS0, (zr (k := 7) (t2 := 3) hG ha rfl), (zr (k := 6) (t2 := 4) hG ha rfl)⟩ rfl rfl ⟨by decide, by decide⟩ ⟨by decide, by decide⟩ (k2 := 1) (n2 := 6) rfl rfl (Nat.le_of_ble_eq_true rfl) dX11_ends_15 (kVM (fun s1 hS_s1 hF_s1 q4 => ?_))
  refine j_aload_n hx 0 dX11_ends_18 rfl ?_
  refine g12_7 hx hG ha kf_RX11_55 dX11_ends_19 ?_
  refine j_callV hx hG (c_X2_run hst (gP G a 7)) lk_RX11_240 (zr (k := 7) (t2 := 3) hG ha rfl) (by decide) rfl rfl rfl rfl [] ⟨rfl, hG, hS_s1, (zr (k := 7) (t2 := 3) hG ha rfl)⟩ rfl rfl ⟨by decide, by decide⟩ ⟨by decide, by decide⟩ (k2 := 1) (n2 := 6) rfl rfl (Nat.le_of_ble_eq_true rfl) dX11_ends_22 (kVM (fun s2 hS_s2 hF_s2 q6 => ?_))
  refine j_iload_n hx 1 dX11_ends_25 rfl ?_
  refine j_if_ne hx 37 dX11_ends_26 rfl (by omega) (fun h7 => ?_) (fun h7 => ?_)
  · skip
    refine j_iload_n hx 1 dX11_ends_37 rfl ?_
    refine j_iconst hx dX11_ends_38 ?_
    refine j_icmp_ne hx 50 dX11_ends_39 rfl (by omega) ⟨by decide, by decide⟩ (fun h8 => ?_) (fun h8 => ?_)
    · skip
      refine j_iload_n hx 1 dX11_ends_50 rfl ?_
      refine j_iconst hx dX11_ends_51 ?_
      refine j_icmp_ne hx 65 dX11_ends_52 rfl (by omega) ⟨by decide, by decide⟩ (fun h9 => ?_) (fun h9 => ?_)
      · skip
        refine j_aload_n hx 0 dX11_ends_65 rfl ?_
        refine g12_7 hx hG ha kf_RX11_55 dX11_ends_66 ?_
        have f10 := zf hS_s2 (zr (k := 7) (t2 := 3) hG ha rfl) (k := 7) rfl
        refine gN3_7 hx hG (zr (k := 7) (t2 := 3) hG ha rfl) kf_RX11_252 rfl dX11_ends_69 ?_
        exact j_iret hx hq.r rfl (by decide) (by decide) dX11_ends_72 ⟨(s2 (gP G a 7) 7), rfl, rfl, hS_s2, (zFr_t (zFr_t zFr_rf hF_s1 (by decide)) hF_s2 (by decide)), (by omega)⟩
      · skip
        refine j_aload_n hx 0 dX11_ends_55 rfl ?_
        refine g12_7 hx hG ha kf_RX11_55 dX11_ends_56 ?_
        have f11 := zf hS_s2 (zr (k := 7) (t2 := 3) hG ha rfl) (k := 6) rfl
        refine gN3_6 hx hG (zr (k := 7) (t2 := 3) hG ha rfl) kf_RX11_249 rfl dX11_ends_59 ?_
        refine j_goto hx 72 dX11_ends_62 rfl ?_
        exact j_iret hx hq.r rfl (by decide) (by decide) dX11_ends_72 ⟨(s2 (gP G a 7) 6), rfl, rfl, hS_s2, (zFr_t (zFr_t zFr_rf hF_s1 (by decide)) hF_s2 (by decide)), (by omega)⟩
    · skip
      refine j_aload_n hx 0 dX11_ends_42 rfl ?_
      refine g12_7 hx hG ha kf_RX11_55 dX11_ends_43 ?_
      have f12 := zf hS_s2 (zr (k := 7) (t2 := 3) hG ha rfl) (k := 5) rfl
      refine gN3_5 hx hG (zr (k := 7) (t2 := 3) hG ha rfl) kf_RX11_246 rfl dX11_ends_46 ?_
      exact j_iret hx hq.r rfl (by decide) (by decide) dX11_ends_49 ⟨(s2 (gP G a 7) 5), rfl, rfl, hS_s2, (zFr_t (zFr_t zFr_rf hF_s1 (by decide)) hF_s2 (by decide)), (by omega)⟩
  · skip
    refine j_aload_n hx 0 dX11_ends_29 rfl ?_
    refine g12_7 hx hG ha kf_RX11_55 dX11_ends_30 ?_
    have f13 := zf hS_s2 (zr (k := 7) (t2 := 3) hG ha rfl) (k := 4) rfl
    refine gN3_4 hx hG (zr (k := 7) (t2 := 3) hG ha rfl) kf_RX11_243 rfl dX11_ends_33 ?_
    exact j_iret hx hq.r rfl (by decide) (by decide) dX11_ends_36 ⟨(s2 (gP G a 7) 4), rfl, rfl, hS_s2, (zFr_t (zFr_t zFr_rf hF_s1 (by decide)) hF_s2 (by decide)), (by omega)⟩

set_option maxHeartbeats 4000000 in
set_option maxRecDepth 20000 in
theorem c_X10_boardAt {E : zE} {l : Launch} (hst : l.stackTraces = false) (a : Nat) (x1 : Int) : Con E l yX10_boardAt cX10_boardAt 2 (some (.object "SnapHeaps$Board")) { frames := 0, cells := 0, slots := 0, locals := 0 } (fun G s vs => vs = [.ref a, .int (zI x1)] ∧ zGK G ∧ zSK G s ∧ (gT G a = 11) ∧ ((-2147483648) ≤ x1 ∧ x1 ≤ 2147483647)) (fun G s _ => pN (fun G2 s2 => G2 = G ∧ s2 = s ∧ True) (fun r G2 s2 => G2 = G ∧ s2 = s ∧ gT G r = 1 ∧ x1 ≤ 12)) := by
  refine Con.mk hst (by decide) (fun G s vs h => by rw [h.1]; exact Nat.le_of_ble_eq_true rfl) ?_
  rintro X G s0 vs ⟨rfl, hG, hS0, ha, hx1⟩ rfl hx hq
  show JJ X E 2 G s0 0 0 [(0, .ref a), (1, .int (zI x1))] 0 []
  refine j_iload_n hx 1 dX10_boardAt_0 rfl ?_
  refine j_if_lt hx 22 dX10_boardAt_1 rfl (by omega) (fun h1 => ?_) (fun h1 => ?_)
  · skip
    refine j_null hx dX10_boardAt_22 ?_
    exact j_aret hx hq rfl (by decide) (by decide) dX10_boardAt_23 (Or.inl rfl) (Or.inl ⟨rfl, rfl, rfl, trivial⟩)
  · skip
    refine j_iload_n hx 1 dX10_boardAt_4 rfl ?_
    refine j_aload_n hx 0 dX10_boardAt_5 rfl ?_
    refine g11_1 hx hG ha kf_RX10_13 dX10_boardAt_6 ?_
    refine j_alen hx hG (zr (k := 1) (t2 := 56) hG ha rfl) (by decide) (by decide) (zlen hG (zr (k := 1) (t2 := 56) hG ha rfl) (n := 13) rfl rfl) dX10_boardAt_9 ?_
    refine j_icmp_ge hx 22 dX10_boardAt_10 rfl (by omega) ⟨by decide, by decide⟩ (fun h2 => ?_) (fun h2 => ?_)
    · skip
      refine j_null hx dX10_boardAt_22 ?_
      exact j_aret hx hq rfl (by decide) (by decide) dX10_boardAt_23 (Or.inl rfl) (Or.inl ⟨rfl, rfl, rfl, trivial⟩)
    · skip
      refine j_aload_n hx 0 dX10_boardAt_13 rfl ?_
      refine g11_1 hx hG ha kf_RX10_13 dX10_boardAt_14 ?_
      refine j_iload_n hx 1 dX10_boardAt_17 rfl ?_
      refine j_aald hx hG hS0 (zr (k := 1) (t2 := 56) hG ha rfl) (by decide) (by decide) rfl (zlen hG (zr (k := 1) (t2 := 56) hG ha rfl) (n := 13) rfl rfl) (by omega) (by omega) dX10_boardAt_18 (fun h3 => ?_) (fun h4 h5 => ?_)
      · skip
        refine j_goto hx 23 dX10_boardAt_19 rfl ?_
        exact j_aret hx hq rfl (by decide) (by decide) dX10_boardAt_23 (Or.inl rfl) (Or.inl ⟨rfl, rfl, rfl, trivial⟩)
      · skip
        refine j_goto hx 23 dX10_boardAt_19 rfl ?_
        exact j_aret hx hq rfl (by decide) (by decide) dX10_boardAt_23 (Or.inr ⟨_, rfl⟩) (Or.inr ⟨_, rfl, rfl, rfl, ⟨h5, (by omega)⟩⟩)

theorem lk_RX10_22 : LkV RX10 22 RX10 yX10_boardAt cX10_boardAt 2 (some (.object "SnapHeaps$Board")) 1 := ⟨km_RX10_22, ki_yX10_boardAt, ks_RX10_yX10_boardAt, kn_RX10, kc_yX10_boardAt, rfl, by decide +kernel, by decide +kernel, by decide +kernel⟩
theorem lk_RX10_26 : LkV RX10 26 RX0 yX0_become cX0_become 3 none 1 := ⟨km_RX10_26, ki_yX0_become, ks_RX0_yX0_become, kn_RX0, kc_yX0_become, rfl, by decide +kernel, by decide +kernel, by decide +kernel⟩
set_option maxHeartbeats 4000000 in
set_option maxRecDepth 20000 in
theorem c_X10_start {E : zE} {l : Launch} (hst : l.stackTraces = false) (a : Nat) (b1 : Nat) : Con E l yX10_start cX10_start 3 none { frames := 3, cells := 0, slots := 0, locals := 65 } (fun G s vs => vs = [.ref a, .ref b1] ∧ zGK G ∧ zSK G s ∧ (gT G a = 11) ∧ (gT G b1 = 1)) (fun G s _ => pV (fun G2 s2 => G2 = G ∧ zSK G s2 ∧ zFr [1, 7, 41] G s s2 ∧ True)) := by
  refine Con.mk hst (by decide) (fun G s vs h => by rw [h.1]; exact Nat.le_of_ble_eq_true rfl) ?_
  rintro X G s0 vs ⟨rfl, hG, hS0, ha, hb1⟩ rfl hx hq
  show JJ X E 3 G s0 0 0 [(0, .ref a), (1, .ref b1)] 0 []
  refine j_aload_n hx 0 dX10_start_0 rfl ?_
  refine j_iconst hx dX10_start_1 ?_
  refine j_callV hx hG (c_X10_boardAt hst a 0) lk_RX10_22 ha (by decide) rfl rfl rfl rfl [.int (zI 0)] ⟨rfl, hG, hS0, ha, (by omega)⟩ rfl rfl ⟨by decide, by decide⟩ ⟨by decide, by decide⟩ (k2 := 0) (n2 := 0) rfl rfl (Nat.le_of_ble_eq_true rfl) dX10_start_2 (kNP (fun _ => ?_) (fun r1 q2 => ?_))
  · skip
    refine j_astore_nN hx [(2, .null), (0, .ref a), (1, .ref b1)] dX10_start_5 (by decide) rfl ?_
    refine j_aload_nN hx 0 dX10_start_6 rfl ?_
    refine j_ifnullN hx 15 dX10_start_7 rfl ?_
    exact j_vret hx hq rfl (by decide) (by decide) dX10_start_15 ⟨rfl, rfl, hS0, zFr_rf, trivial⟩
  · skip
    refine j_astore_n hx [(2, .ref r1), (0, .ref a), (1, .ref b1)] dX10_start_5 (by decide) rfl ?_
    refine j_aload_n hx 0 dX10_start_6 rfl ?_
    refine j_ifnull hx dX10_start_7 ?_
    refine j_aload_n hx 0 dX10_start_10 rfl ?_
    refine j_aload_n hx 2 dX10_start_11 rfl ?_
    refine j_callV hx hG (c_X0_become hst r1 b1) lk_RX10_26 q2.1 (by decide) rfl rfl rfl rfl [.ref b1] ⟨rfl, hG, hS0, q2.1, hb1⟩ rfl rfl ⟨by decide, by decide⟩ ⟨by decide, by decide⟩ (k2 := 0) (n2 := 0) rfl rfl (Nat.le_of_ble_eq_true rfl) dX10_start_12 (kVM (fun s1 hS_s1 hF_s1 q4 => ?_))
    exact j_vret hx hq rfl (by decide) (by decide) dX10_start_15 ⟨rfl, rfl, hS_s1, (zFr_t zFr_rf hF_s1 (by decide)), trivial⟩

theorem lk_RX0_95 : LkV RX0 95 RX0 yX0_turnOver cX0_turnOver 2 none 1 := ⟨km_RX0_95, ki_yX0_turnOver, ks_RX0_yX0_turnOver, kn_RX0, kc_yX0_turnOver, rfl, by decide +kernel, by decide +kernel, by decide +kernel⟩
theorem lk_RX0_98 : LkV RX0 98 RX0 yX0_lay cX0_lay 3 (some .int) 1 := ⟨km_RX0_98, ki_yX0_lay, ks_RX0_yX0_lay, kn_RX0, kc_yX0_lay, rfl, by decide +kernel, by decide +kernel, by decide +kernel⟩
set_option maxHeartbeats 4000000 in
set_option maxRecDepth 20000 in
theorem c_X0_step {E : zE} {l : Launch} (hst : l.stackTraces = false) (a : Nat) : Con E l yX0_step cX0_step 2 (some .boolean) { frames := 3, cells := 0, slots := 0, locals := 65 } (fun G s vs => vs = [.ref a] ∧ zGK G ∧ zSK G s ∧ (gT G a = 1)) (fun G s _ => pI (fun r G2 s2 => G2 = G ∧ zSK G s2 ∧ zFr [1, 7, 41] G s s2 ∧ (0 ≤ r ∧ r ≤ 1))) := by
  refine Con.mk hst (by decide) (fun G s vs h => by rw [h.1]; exact Nat.le_of_ble_eq_true rfl) ?_
  rintro X G s0 vs ⟨rfl, hG, hS0, ha⟩ rfl hx hq
  show JJ X E 2 G s0 0 0 [(0, .ref a)] 0 []
  refine j_aload_n hx 0 dX0_step_0 rfl ?_
  refine j_callV hx hG (c_X0_whose hst a) lk_RX0_92 ha (by decide) rfl rfl rfl rfl [] ⟨rfl, hG, hS0, ha⟩ rfl rfl ⟨by decide, by decide⟩ ⟨by decide, by decide⟩ (k2 := 0) (n2 := 0) rfl rfl (Nat.le_of_ble_eq_true rfl) dX0_step_1 (kIP (fun v1 q2 => ?_))
  refine j_istore_n hx [(1, .int (zI v1)), (0, .ref a)] dX0_step_4 (by decide) rfl ?_
  refine j_iload_n hx 0 dX0_step_5 rfl ?_
  refine j_iconst hx dX0_step_6 ?_
  refine j_icmp_ne hx 12 dX0_step_7 rfl (by omega) ⟨by decide, by decide⟩ (fun h3 => ?_) (fun h3 => ?_)
  · skip
    refine j_aload_n hx 1 dX0_step_12 rfl ?_
    refine j_iload_n hx 0 dX0_step_13 rfl ?_
    refine j_callV hx hG (c_X0_turnOver hst a v1) lk_RX0_95 ha (by decide) rfl rfl rfl rfl [.int (zI v1)] ⟨rfl, hG, hS0, ha, (by omega)⟩ rfl rfl ⟨by decide, by decide⟩ ⟨by decide, by decide⟩ (k2 := 0) (n2 := 0) rfl rfl (Nat.le_of_ble_eq_true rfl) dX0_step_14 (kVM (fun s1 hS_s1 hF_s1 q5 => ?_))
    refine j_aload_n hx 1 dX0_step_17 rfl ?_
    refine j_iload_n hx 0 dX0_step_18 rfl ?_
    refine j_callV hx hG (c_X0_lay hst a v1) lk_RX0_98 ha (by decide) rfl rfl rfl rfl [.int (zI v1)] ⟨rfl, hG, hS_s1, ha, (by omega)⟩ rfl rfl ⟨by decide, by decide⟩ ⟨by decide, by decide⟩ (k2 := 0) (n2 := 0) rfl rfl (Nat.le_of_ble_eq_true rfl) dX0_step_19 (kIM (fun v6 s2 hS_s2 hF_s2 q7 => ?_))
    refine j_pop hx dX0_step_22 rfl ?_
    refine j_iconst hx dX0_step_23 ?_
    exact j_zret hx hq rfl (by decide) (by decide) dX0_step_24 (by omega) ⟨1, rfl, rfl, hS_s2, (zFr_t (zFr_t zFr_rf hF_s1 (by decide)) hF_s2 (by decide)), (by omega)⟩
  · skip
    refine j_iconst hx dX0_step_10 ?_
    exact j_zret hx hq rfl (by decide) (by decide) dX0_step_11 (by omega) ⟨0, rfl, rfl, hS0, zFr_rf, (by omega)⟩

theorem lk_RX10_30 : LkV RX10 30 RX10 yX10_start cX10_start 3 none 1 := ⟨km_RX10_30, ki_yX10_start, ks_RX10_yX10_start, kn_RX10, kc_yX10_start, rfl, by decide +kernel, by decide +kernel, by decide +kernel⟩
theorem lk_RX10_33 : LkV RX10 33 RX0 yX0_step cX0_step 2 (some .boolean) 0 := ⟨km_RX10_33, ki_yX0_step, ks_RX0_yX0_step, kn_RX0, kc_yX0_step, rfl, by decide +kernel, by decide +kernel, by decide +kernel⟩
theorem lk_RX10_37 : LkV RX10 37 RX0 yX0_likeTops cX0_likeTops 1 (some .int) 0 := ⟨km_RX10_37, ki_yX0_likeTops, ks_RX0_yX0_likeTops, kn_RX0, kc_yX0_likeTops, rfl, by decide +kernel, by decide +kernel, by decide +kernel⟩
set_option maxHeartbeats 4000000 in
set_option maxRecDepth 20000 in
theorem c_X10_likeTurn {E : zE} {l : Launch} (hst : l.stackTraces = false) (a : Nat) (b1 : Nat) (x2 : Int) : Con E l yX10_likeTurn cX10_likeTurn 6 (some .int) { frames := 4, cells := 0, slots := 0, locals := 87 } (fun G s vs => vs = [.ref a, .ref b1, .int (zI x2)] ∧ zGK G ∧ zSK G s ∧ (gT G a = 11) ∧ (gT G b1 = 1) ∧ ((-2147483648) ≤ x2 ∧ x2 ≤ 2147483647)) (fun G s _ => pI (fun r G2 s2 => G2 = G ∧ zSK G s2 ∧ zFr [1, 7, 41] G s s2 ∧ ((-2147483648) ≤ r ∧ r ≤ 2147483647))) := by
  refine Con.mk hst (by decide) (fun G s vs h => by rw [h.1]; exact Nat.le_of_ble_eq_true rfl) ?_
  rintro X G s0 vs ⟨rfl, hG, hS0, ha, hb1, hx2⟩ rfl hx hq
  show JJ X E 6 G s0 0 0 [(0, .ref a), (1, .ref b1), (2, .int (zI x2))] 0 []
  refine j_aload_n hx 0 dX10_likeTurn_0 rfl ?_
  refine j_aload_n hx 1 dX10_likeTurn_1 rfl ?_
  refine j_callV hx hG (c_X10_start hst a b1) lk_RX10_30 ha (by decide) rfl rfl rfl rfl [.ref b1] ⟨rfl, hG, hS0, ha, hb1⟩ rfl rfl ⟨by decide, by decide⟩ ⟨by decide, by decide⟩ (k2 := 0) (n2 := 0) rfl rfl (Nat.le_of_ble_eq_true rfl) dX10_likeTurn_2 (kVM (fun s1 hS_s1 hF_s1 q2 => ?_))
  refine j_aload_n hx 0 dX10_likeTurn_5 rfl ?_
  refine j_iconst hx dX10_likeTurn_6 ?_
  refine j_callV hx hG (c_X10_boardAt hst a 0) lk_RX10_22 ha (by decide) rfl rfl rfl rfl [.int (zI 0)] ⟨rfl, hG, hS_s1, ha, (by omega)⟩ rfl rfl ⟨by decide, by decide⟩ ⟨by decide, by decide⟩ (k2 := 0) (n2 := 0) rfl rfl (Nat.le_of_ble_eq_true rfl) dX10_likeTurn_7 (kNP (fun _ => ?_) (fun r3 q4 => ?_))
  · skip
    refine j_astore_nN hx [(3, .null), (0, .ref a), (1, .ref b1), (2, .int (zI x2))] dX10_likeTurn_10 (by decide) rfl ?_
    refine j_iconst hx dX10_likeTurn_11 ?_
    refine j_istore hx [(4, .int (zI 0)), (3, .null), (0, .ref a), (1, .ref b1), (2, .int (zI x2))] dX10_likeTurn_12 (by decide) rfl ?_
    refine j_iconst hx dX10_likeTurn_14 ?_
    refine j_istore hx [(5, .int (zI 0)), (4, .int (zI 0)), (3, .null), (0, .ref a), (1, .ref b1), (2, .int (zI x2))] dX10_likeTurn_15 (by decide) rfl ?_
    have c17_2 : ∀ (m_c17_2 : Nat) (v5 : Int) (v6 : Int) (s3 : zS), 2147483648 - v6 < m_c17_2 → ((-2147483648) ≤ v5 ∧ v5 ≤ 2147483647) → (0 ≤ v6 ∧ v6 ≤ 60) → (zSK G s3) → (zFr [1, 7, 41] G s1 s3) → JJ X E 6 G s3 0 0 [(2, .int (zI x2)), (3, .null), (4, .int (zI v5)), (5, .int (zI v6))] 17 [] := by
      intro m_c17_2
      induction m_c17_2 with
      | zero => intro v5 v6 s3 hm_c17_2 fA4 fA5 hS_s3 hF_s3; exfalso; omega
      | succ m_c17_2 ih_c17_2 => 
        intro v5 v6 s3 hm_c17_2 fA4 fA5 hS_s3 hF_s3
        refine j_iload hx 3 dX10_likeTurn_17 rfl ?_
        refine j_bipush hx dX10_likeTurn_19 rfl ?_
        refine j_icmp_ge hx 61 dX10_likeTurn_21 rfl (by omega) ⟨by decide, by decide⟩ (fun h7 => ?_) (fun h7 => ?_)
        · skip
          refine j_iconst hx dX10_likeTurn_61 ?_
          exact j_iret hx hq rfl (by decide) (by decide) dX10_likeTurn_62 ⟨(-1), rfl, rfl, hS_s3, (zFr_t (zFr_t zFr_rf hF_s1 (by decide)) hF_s3 (by decide)), (by omega)⟩
        · skip
          refine j_aload_nN hx 1 dX10_likeTurn_24 rfl ?_
          refine j_ifnullN hx 61 dX10_likeTurn_25 rfl ?_
          refine j_iconst hx dX10_likeTurn_61 ?_
          exact j_iret hx hq rfl (by decide) (by decide) dX10_likeTurn_62 ⟨(-1), rfl, rfl, hS_s3, (zFr_t (zFr_t zFr_rf hF_s1 (by decide)) hF_s3 (by decide)), (by omega)⟩
    exact j_sub [5, 2, 1, 0] [(2, .int (zI x2)), (3, .null), (4, .int (zI 0)), (5, .int (zI 0))] rfl (c17_2 (2147483648 * 4) 0 0 s1 (by omega) (by omega) (by omega) hS_s1 zFr_rf)
  · skip
    refine j_astore_n hx [(3, .ref r3), (0, .ref a), (1, .ref b1), (2, .int (zI x2))] dX10_likeTurn_10 (by decide) rfl ?_
    refine j_iconst hx dX10_likeTurn_11 ?_
    refine j_istore hx [(4, .int (zI 0)), (3, .ref r3), (0, .ref a), (1, .ref b1), (2, .int (zI x2))] dX10_likeTurn_12 (by decide) rfl ?_
    refine j_iconst hx dX10_likeTurn_14 ?_
    refine j_istore hx [(5, .int (zI 0)), (4, .int (zI 0)), (3, .ref r3), (0, .ref a), (1, .ref b1), (2, .int (zI x2))] dX10_likeTurn_15 (by decide) rfl ?_
    have c17_8 : ∀ (m_c17_8 : Nat) (v8 : Int) (v9 : Int) (s9 : zS), 2147483648 - v9 < m_c17_8 → ((-2147483648) ≤ v8 ∧ v8 ≤ 2147483647) → (0 ≤ v9 ∧ v9 ≤ 60) → (zSK G s9) → (zFr [1, 7, 41] G s1 s9) → JJ X E 6 G s9 0 0 [(2, .int (zI x2)), (3, .ref r3), (4, .int (zI v8)), (5, .int (zI v9))] 17 [] := by
      intro m_c17_8
      induction m_c17_8 with
      | zero => intro v8 v9 s9 hm_c17_8 fA10 fA11 hS_s9 hF_s9; exfalso; omega
      | succ m_c17_8 ih_c17_8 => 
        intro v8 v9 s9 hm_c17_8 fA10 fA11 hS_s9 hF_s9
        refine j_iload hx 3 dX10_likeTurn_17 rfl ?_
        refine j_bipush hx dX10_likeTurn_19 rfl ?_
        refine j_icmp_ge hx 61 dX10_likeTurn_21 rfl (by omega) ⟨by decide, by decide⟩ (fun h10 => ?_) (fun h10 => ?_)
        · skip
          refine j_iconst hx dX10_likeTurn_61 ?_
          exact j_iret hx hq rfl (by decide) (by decide) dX10_likeTurn_62 ⟨(-1), rfl, rfl, hS_s9, (zFr_t (zFr_t zFr_rf hF_s1 (by decide)) hF_s9 (by decide)), (by omega)⟩
        · skip
          refine j_aload_n hx 1 dX10_likeTurn_24 rfl ?_
          refine j_ifnull hx dX10_likeTurn_25 ?_
          refine j_aload_n hx 1 dX10_likeTurn_28 rfl ?_
          refine j_callV hx hG (c_X0_step hst r3) lk_RX10_33 q4.1 (by decide) rfl rfl rfl rfl [] ⟨rfl, hG, hS_s9, q4.1⟩ rfl rfl ⟨by decide, by decide⟩ ⟨by decide, by decide⟩ (k2 := 0) (n2 := 0) rfl rfl (Nat.le_of_ble_eq_true rfl) dX10_likeTurn_29 (kIM (fun v11 s14 hS_s14 hF_s14 q12 => ?_))
          refine j_if_eq hx 61 dX10_likeTurn_32 rfl (by omega) (fun h13 => ?_) (fun h13 => ?_)
          · skip
            refine j_iconst hx dX10_likeTurn_61 ?_
            exact j_iret hx hq rfl (by decide) (by decide) dX10_likeTurn_62 ⟨(-1), rfl, rfl, hS_s14, (zFr_t (zFr_t (zFr_t zFr_rf hF_s1 (by decide)) hF_s9 (by decide)) hF_s14 (by decide)), (by omega)⟩
          · skip
            refine j_aload_n hx 1 dX10_likeTurn_35 rfl ?_
            refine j_callV hx hG (c_X0_likeTops hst r3) lk_RX10_37 q4.1 (by decide) rfl rfl rfl rfl [] ⟨rfl, hG, hS_s14, q4.1⟩ rfl rfl ⟨by decide, by decide⟩ ⟨by decide, by decide⟩ (k2 := 0) (n2 := 0) rfl rfl (Nat.le_of_ble_eq_true rfl) dX10_likeTurn_36 (kIP (fun v14 q15 => ?_))
            refine j_iconst hx dX10_likeTurn_39 ?_
            have c55_15 : ∀ (v16 : Int), ((-2147483648) ≤ v16 ∧ v16 ≤ 2147483647) → JJ X E 6 G s14 0 0 [(2, .int (zI x2)), (3, .ref r3), (4, .int (zI v16)), (5, .int (zI v9))] 55 [] := by
              intro v16 fA16
              refine j_iinc hx 3 [(5, .int (zI (v9 + 1))), (2, .int (zI x2)), (3, .ref r3), (4, .int (zI v16))] dX10_likeTurn_55 rfl (by omega) (by decide) rfl ?_
              refine j_goto hx 17 dX10_likeTurn_58 rfl ?_
              exact j_sub [1, 2, 3, 0] [(2, .int (zI x2)), (3, .ref r3), (4, .int (zI v16)), (5, .int (zI (v9 + 1)))] rfl (ih_c17_8 v16 (v9 + 1) s14 (by omega) (by omega) (by omega) hS_s14 (zFr_t (zFr_t zFr_rf hF_s9 (by decide)) hF_s14 (by decide)))
            refine j_icmp_eq hx 55 dX10_likeTurn_40 rfl (by omega) ⟨by decide, by decide⟩ (fun h17 => ?_) (fun h17 => ?_)
            · skip
              exact j_sub [0, 1, 2, 3] [(2, .int (zI x2)), (3, .ref r3), (4, .int (zI v8)), (5, .int (zI v9))] rfl (c55_15 v8 (by omega))
            · skip
              refine j_iload hx 2 dX10_likeTurn_43 rfl ?_
              refine j_iload_n hx 0 dX10_likeTurn_45 rfl ?_
              refine j_icmp_ne hx 52 dX10_likeTurn_46 rfl (by omega) (by omega) (fun h18 => ?_) (fun h18 => ?_)
              · skip
                refine j_iincN hx 2 (fun v19 => [(4, .int (zI v19)), (2, .int (zI x2)), (3, .ref r3), (5, .int (zI v9))]) dX10_likeTurn_52 rfl (by decide) (fun _ => rfl) (fun v19 f20 f21 f22 => ?_)
                exact j_sub [1, 2, 0, 3] [(2, .int (zI x2)), (3, .ref r3), (4, .int (zI v19)), (5, .int (zI v9))] rfl (c55_15 v19 (by omega))
              · skip
                refine j_iload hx 3 dX10_likeTurn_49 rfl ?_
                exact j_iret hx hq rfl (by decide) (by decide) dX10_likeTurn_51 ⟨v9, rfl, rfl, hS_s14, (zFr_t (zFr_t (zFr_t zFr_rf hF_s1 (by decide)) hF_s9 (by decide)) hF_s14 (by decide)), (by omega)⟩
    exact j_sub [5, 2, 1, 0] [(2, .int (zI x2)), (3, .ref r3), (4, .int (zI 0)), (5, .int (zI 0))] rfl (c17_8 (2147483648 * 4) 0 0 s1 (by omega) (by omega) (by omega) hS_s1 zFr_rf)

theorem lk_RX11_255 : LkV RX11 255 RX10 yX10_likeTurn cX10_likeTurn 6 (some .int) 2 := ⟨km_RX11_255, ki_yX10_likeTurn, ks_RX10_yX10_likeTurn, kn_RX10, kc_yX10_likeTurn, rfl, by decide +kernel, by decide +kernel, by decide +kernel⟩
set_option maxHeartbeats 4000000 in
set_option maxRecDepth 20000 in
theorem c_X11_where {E : zE} {l : Launch} (hst : l.stackTraces = false) (a : Nat) (x1 : Int) : Con E l yX11_where cX11_where 2 (some .int) { frames := 5, cells := 0, slots := 0, locals := 112 } (fun G s vs => vs = [.ref a, .int (zI x1)] ∧ zGK G ∧ zSK G s ∧ (gT G a = 12) ∧ ((-2147483648) ≤ x1 ∧ x1 ≤ 2147483647)) (fun G s _ => pI (fun r G2 s2 => G2 = G ∧ zSK G s2 ∧ zFr [1, 7, 41] G s s2 ∧ ((-2147483648) ≤ r ∧ r ≤ 2147483647))) := by
  refine Con.mk hst (by decide) (fun G s vs h => by rw [h.1]; exact Nat.le_of_ble_eq_true rfl) ?_
  rintro X G s0 vs ⟨rfl, hG, hS0, ha, hx1⟩ rfl hx hq
  show JJ X E 2 G s0 0 0 [(0, .ref a), (1, .int (zI x1))] 0 []
  refine j_aload_n hx 0 dX11_where_0 rfl ?_
  refine g12_8 hx hG ha kf_RX11_62 dX11_where_1 ?_
  refine j_aload_n hx 0 dX11_where_4 rfl ?_
  refine g12_6 hx hG ha kf_RX11_48 dX11_where_5 ?_
  refine gN4_1 hx hG (zr (k := 6) (t2 := 4) hG ha rfl) kf_RX11_155 dX11_where_8 ?_
  refine j_iload_n hx 1 dX11_where_11 rfl ?_
  refine j_callV hx hG (c_X10_likeTurn hst (gP G a 8) (gP G (gP G a 6) 1) x1) lk_RX11_255 (zr (k := 8) (t2 := 11) hG ha rfl) (by decide) rfl rfl rfl rfl [.ref (gP G (gP G a 6) 1), .int (zI x1)] ⟨rfl, hG, hS0, (zr (k := 8) (t2 := 11) hG ha rfl), (zr (k := 1) (t2 := 1) hG (zr (k := 6) (t2 := 4) hG ha rfl) rfl), (by omega)⟩ rfl rfl ⟨by decide, by decide⟩ ⟨by decide, by decide⟩ (k2 := 0) (n2 := 0) rfl rfl (Nat.le_of_ble_eq_true rfl) dX11_where_12 (kIM (fun v1 s1 hS_s1 hF_s1 q2 => ?_))
  exact j_iret hx hq rfl (by decide) (by decide) dX11_where_15 ⟨v1, rfl, rfl, hS_s1, (zFr_t zFr_rf hF_s1 (by decide)), (by omega)⟩

set_option maxHeartbeats 4000000 in
set_option maxRecDepth 20000 in
theorem c_X0_sourceOf {E : zE} {l : Launch} (hst : l.stackTraces = false) (a : Nat) (x1 : Int) : Con E l yX0_sourceOf cX0_sourceOf 3 (some (.object "SnapHeaps$Pile")) { frames := 1, cells := 0, slots := 0, locals := 21 } (fun G s vs => vs = [.ref a, .int (zI x1)] ∧ zGK G ∧ zSK G s ∧ (gT G a = 1) ∧ ((-2147483648) ≤ x1 ∧ x1 ≤ 2147483647)) (fun G s _ => pR (fun r G2 s2 => G2 = G ∧ s2 = s ∧ gT G r = 7)) := by
  refine Con.mk hst (by decide) (fun G s vs h => by rw [h.1]; exact Nat.le_of_ble_eq_true rfl) ?_
  rintro X G s0 vs ⟨rfl, hG, hS0, ha, hx1⟩ rfl hx hq
  show JJ X E 3 G s0 0 0 [(0, .ref a), (1, .int (zI x1))] 0 []
  refine j_aload_n hx 0 dX0_sourceOf_0 rfl ?_
  refine j_iload_n hx 1 dX0_sourceOf_1 rfl ?_
  refine j_callV hx hG (c_X0_rowOf hst a x1) lk_RX0_36 ha (by decide) rfl rfl rfl rfl [.int (zI x1)] ⟨rfl, hG, hS0, ha, (by omega)⟩ rfl rfl ⟨by decide, by decide⟩ ⟨by decide, by decide⟩ (k2 := 0) (n2 := 0) rfl rfl (Nat.le_of_ble_eq_true rfl) dX0_sourceOf_2 (kRP (fun r1 q2 => ?_))
  refine j_astore_n hx [(2, .ref r1), (0, .ref a), (1, .int (zI x1))] dX0_sourceOf_5 (by decide) rfl ?_
  refine j_aload_n hx 0 dX0_sourceOf_6 rfl ?_
  have f3 := zf hS0 q2 (k := 1) rfl
  refine gN7_1 hx hG q2 kf_RX0_43 rfl dX0_sourceOf_7 ?_
  refine j_if_le hx 17 dX0_sourceOf_10 rfl (by omega) (fun h4 => ?_) (fun h4 => ?_)
  · skip
    refine j_aload_n hx 1 dX0_sourceOf_17 rfl ?_
    refine j_iload_n hx 2 dX0_sourceOf_18 rfl ?_
    refine j_callV hx hG (c_X0_heapOf hst a x1) lk_RX0_40 ha (by decide) rfl rfl rfl rfl [.int (zI x1)] ⟨rfl, hG, hS0, ha, (by omega)⟩ rfl rfl ⟨by decide, by decide⟩ ⟨by decide, by decide⟩ (k2 := 0) (n2 := 0) rfl rfl (Nat.le_of_ble_eq_true rfl) dX0_sourceOf_19 (kRP (fun r5 q6 => ?_))
    exact j_aret hx hq rfl (by decide) (by decide) dX0_sourceOf_22 (Or.inr ⟨_, rfl⟩) ⟨_, rfl, rfl, rfl, q6⟩
  · skip
    refine j_aload_n hx 0 dX0_sourceOf_13 rfl ?_
    refine j_goto hx 22 dX0_sourceOf_14 rfl ?_
    exact j_aret hx hq rfl (by decide) (by decide) dX0_sourceOf_22 (Or.inr ⟨_, rfl⟩) ⟨_, rfl, rfl, rfl, q2⟩

theorem lk_RX0_78 : LkV RX0 78 RX6 yX6_cardAt cX6_cardAt 2 (some .int) 1 := ⟨km_RX0_78, ki_yX6_cardAt, ks_RX6_yX6_cardAt, kn_RX6, kc_yX6_cardAt, rfl, by decide +kernel, by decide +kernel, by decide +kernel⟩
set_option maxHeartbeats 4000000 in
set_option maxRecDepth 20000 in
theorem c_X0_firstHasLain {E : zE} {l : Launch} (hst : l.stackTraces = false) (a : Nat) (x1 : Int) : Con E l yX0_firstHasLain cX0_firstHasLain 3 (some .boolean) { frames := 1, cells := 0, slots := 0, locals := 21 } (fun G s vs => vs = [.ref a, .int (zI x1)] ∧ zGK G ∧ zSK G s ∧ (gT G a = 1) ∧ ((-2147483648) ≤ x1 ∧ x1 ≤ 2147483647)) (fun G s _ => pI (fun r G2 s2 => G2 = G ∧ s2 = s ∧ (0 ≤ r ∧ r ≤ 1))) := by
  refine Con.mk hst (by decide) (fun G s vs h => by rw [h.1]; exact Nat.le_of_ble_eq_true rfl) ?_
  rintro X G s0 vs ⟨rfl, hG, hS0, ha, hx1⟩ rfl hx hq
  show JJ X E 3 G s0 0 0 [(0, .ref a), (1, .int (zI x1))] 0 []
  refine j_aload_n hx 0 dX0_firstHasLain_0 rfl ?_
  refine j_iload_n hx 1 dX0_firstHasLain_1 rfl ?_
  refine j_callV hx hG (c_X0_rowOf hst a x1) lk_RX0_36 ha (by decide) rfl rfl rfl rfl [.int (zI x1)] ⟨rfl, hG, hS0, ha, (by omega)⟩ rfl rfl ⟨by decide, by decide⟩ ⟨by decide, by decide⟩ (k2 := 0) (n2 := 0) rfl rfl (Nat.le_of_ble_eq_true rfl) dX0_firstHasLain_2 (kRP (fun r1 q2 => ?_))
  refine j_iconst hx dX0_firstHasLain_5 ?_
  refine j_callV hx hG (c_X6_cardAt hst r1 0) lk_RX0_78 q2 (by decide) rfl rfl rfl rfl [.int (zI 0)] ⟨rfl, hG, hS0, q2, (by omega)⟩ rfl rfl ⟨by decide, by decide⟩ ⟨by decide, by decide⟩ (k2 := 0) (n2 := 0) rfl rfl (Nat.le_of_ble_eq_true rfl) dX0_firstHasLain_6 (kIP (fun v3 q4 => ?_))
  refine j_istore_n hx [(2, .int (zI v3)), (0, .ref a), (1, .int (zI x1))] dX0_firstHasLain_9 (by decide) rfl ?_
  refine j_iload_n hx 0 dX0_firstHasLain_10 rfl ?_
  refine j_iconst hx dX0_firstHasLain_11 ?_
  refine j_icmp_eq hx 26 dX0_firstHasLain_12 rfl (by omega) ⟨by decide, by decide⟩ (fun h5 => ?_) (fun h5 => ?_)
  · skip
    refine j_iconst hx dX0_firstHasLain_26 ?_
    exact j_zret hx hq rfl (by decide) (by decide) dX0_firstHasLain_27 (by omega) ⟨0, rfl, rfl, rfl, (by omega)⟩
  · skip
    refine j_iload_n hx 0 dX0_firstHasLain_15 rfl ?_
    refine j_iconst hx dX0_firstHasLain_16 ?_
    refine j_iand hx dX0_firstHasLain_17 (by omega) ⟨by decide, by decide⟩ (fun v6 f7 f8 f9 f10 _ => ?_)
    refine j_iconst hx dX0_firstHasLain_18 ?_
    refine j_icmp_ne hx 26 dX0_firstHasLain_19 rfl (by omega) ⟨by decide, by decide⟩ (fun h12 => ?_) (fun h12 => ?_)
    · skip
      refine j_iconst hx dX0_firstHasLain_26 ?_
      exact j_zret hx hq rfl (by decide) (by decide) dX0_firstHasLain_27 (by omega) ⟨0, rfl, rfl, rfl, (by omega)⟩
    · skip
      refine j_iconst hx dX0_firstHasLain_22 ?_
      refine j_goto hx 27 dX0_firstHasLain_23 rfl ?_
      exact j_zret hx hq rfl (by decide) (by decide) dX0_firstHasLain_27 (by omega) ⟨1, rfl, rfl, rfl, (by omega)⟩

set_option maxHeartbeats 4000000 in
set_option maxRecDepth 20000 in
theorem c_X0_isOtherTop {E : zE} {l : Launch} (hst : l.stackTraces = false) (a : Nat) (x1 : Int) (x2 : Int) : Con E l yX0_isOtherTop cX0_isOtherTop 4 (some .boolean) { frames := 1, cells := 0, slots := 0, locals := 21 } (fun G s vs => vs = [.ref a, .int (zI x1), .int (zI x2)] ∧ zGK G ∧ zSK G s ∧ (gT G a = 1) ∧ ((-2147483648) ≤ x1 ∧ x1 ≤ 2147483647) ∧ ((-2147483648) ≤ x2 ∧ x2 ≤ 2147483647)) (fun G s _ => pI (fun r G2 s2 => G2 = G ∧ s2 = s ∧ (0 ≤ r ∧ r ≤ 1))) := by
  refine Con.mk hst (by decide) (fun G s vs h => by rw [h.1]; exact Nat.le_of_ble_eq_true rfl) ?_
  rintro X G s0 vs ⟨rfl, hG, hS0, ha, hx1, hx2⟩ rfl hx hq
  show JJ X E 4 G s0 0 0 [(0, .ref a), (1, .int (zI x1)), (2, .int (zI x2))] 0 []
  refine j_iconst hx dX0_isOtherTop_0 ?_
  refine j_istore_n hx [(3, .int (zI 0)), (0, .ref a), (1, .int (zI x1)), (2, .int (zI x2))] dX0_isOtherTop_1 (by decide) rfl ?_
  have c2_1 : ∀ (m_c2_1 : Nat) (v1 : Int), 2147483648 - v1 < m_c2_1 → (0 ≤ v1 ∧ v1 ≤ 3) → JJ X E 4 G s0 0 0 [(0, .ref a), (1, .int (zI x1)), (2, .int (zI x2)), (3, .int (zI v1))] 2 [] := by
    intro m_c2_1
    induction m_c2_1 with
    | zero => intro v1 hm_c2_1 fA2; exfalso; omega
    | succ m_c2_1 ih_c2_1 => 
      intro v1 hm_c2_1 fA2
      refine j_iload_n hx 3 dX0_isOtherTop_2 rfl ?_
      refine j_aload_n hx 0 dX0_isOtherTop_3 rfl ?_
      have f2 := zf hS0 ha (k := 7) rfl
      refine g1_7 hx hG ha kf_RX0_50 rfl dX0_isOtherTop_4 ?_
      refine j_icmp_ge hx 40 dX0_isOtherTop_7 rfl (by omega) (by omega) (fun h3 => ?_) (fun h3 => ?_)
      · skip
        refine j_iconst hx dX0_isOtherTop_40 ?_
        exact j_zret hx hq rfl (by decide) (by decide) dX0_isOtherTop_41 (by omega) ⟨0, rfl, rfl, rfl, (by omega)⟩
      · skip
        refine j_iload_n hx 3 dX0_isOtherTop_10 rfl ?_
        refine j_iload_n hx 1 dX0_isOtherTop_11 rfl ?_
        have c34_3 : JJ X E 4 G s0 0 0 [(0, .ref a), (1, .int (zI x1)), (2, .int (zI x2)), (3, .int (zI v1))] 34 [] := by
          refine j_iinc hx 3 [(3, .int (zI (v1 + 1))), (0, .ref a), (1, .int (zI x1)), (2, .int (zI x2))] dX0_isOtherTop_34 rfl (by omega) (by decide) rfl ?_
          refine j_goto hx 2 dX0_isOtherTop_37 rfl ?_
          exact j_sub [1, 2, 3, 0] [(0, .ref a), (1, .int (zI x1)), (2, .int (zI x2)), (3, .int (zI (v1 + 1)))] rfl (ih_c2_1 (v1 + 1) (by omega) (by omega))
        refine j_icmp_eq hx 34 dX0_isOtherTop_12 rfl (by omega) (by omega) (fun h4 => ?_) (fun h4 => ?_)
        · skip
          exact j_sub [0, 1, 2, 3] [(0, .ref a), (1, .int (zI x1)), (2, .int (zI x2)), (3, .int (zI v1))] rfl (c34_3  )
        · skip
          refine j_iload_n hx 2 dX0_isOtherTop_15 rfl ?_
          refine j_iconst hx dX0_isOtherTop_16 ?_
          refine j_icmp_eq hx 34 dX0_isOtherTop_17 rfl (by omega) ⟨by decide, by decide⟩ (fun h5 => ?_) (fun h5 => ?_)
          · skip
            exact j_sub [0, 1, 2, 3] [(0, .ref a), (1, .int (zI x1)), (2, .int (zI x2)), (3, .int (zI v1))] rfl (c34_3  )
          · skip
            refine j_aload_n hx 0 dX0_isOtherTop_20 rfl ?_
            refine j_iload_n hx 3 dX0_isOtherTop_21 rfl ?_
            refine j_callV hx hG (c_X0_heapOf hst a v1) lk_RX0_40 ha (by decide) rfl rfl rfl rfl [.int (zI v1)] ⟨rfl, hG, hS0, ha, (by omega)⟩ rfl rfl ⟨by decide, by decide⟩ ⟨by decide, by decide⟩ (k2 := 0) (n2 := 0) rfl rfl (Nat.le_of_ble_eq_true rfl) dX0_isOtherTop_22 (kRP (fun r6 q7 => ?_))
            refine j_callV hx hG (c_X6_topKind hst r6) lk_RX0_75 q7 (by decide) rfl rfl rfl rfl [] ⟨rfl, hG, hS0, q7⟩ rfl rfl ⟨by decide, by decide⟩ ⟨by decide, by decide⟩ (k2 := 0) (n2 := 0) rfl rfl (Nat.le_of_ble_eq_true rfl) dX0_isOtherTop_25 (kIP (fun v8 q9 => ?_))
            refine j_iload_n hx 2 dX0_isOtherTop_28 rfl ?_
            refine j_icmp_ne hx 34 dX0_isOtherTop_29 rfl (by omega) (by omega) (fun h10 => ?_) (fun h10 => ?_)
            · skip
              exact j_sub [0, 1, 2, 3] [(0, .ref a), (1, .int (zI x1)), (2, .int (zI x2)), (3, .int (zI v1))] rfl (c34_3  )
            · skip
              refine j_iconst hx dX0_isOtherTop_32 ?_
              exact j_zret hx hq rfl (by decide) (by decide) dX0_isOtherTop_33 (by omega) ⟨1, rfl, rfl, rfl, (by omega)⟩
  exact j_sub [1, 2, 3, 0] [(0, .ref a), (1, .int (zI x1)), (2, .int (zI x2)), (3, .int (zI 0))] rfl (c2_1 (2147483648 * 4) 0 (by omega) (by omega))

theorem lk_RX11_362 : LkS RX11 362 yX11_commonDivisor cX11_commonDivisor 11 (some .long) 2 := ⟨km_RX11_362, kst_yX11_commonDivisor, kn_RX11, kc_yX11_commonDivisor, by decide +kernel, by decide +kernel, by decide +kernel⟩
set_option maxHeartbeats 4000000 in
set_option maxRecDepth 20000 in
theorem c_X11_leastTerm {E : zE} {l : Launch} (hst : l.stackTraces = false) (y0 : Int) (y1 : Int) (x2 : Int) : Con E l yX11_leastTerm cX11_leastTerm 7 (some .long) { frames := 1, cells := 0, slots := 0, locals := 30 } (fun G s vs => vs = [.long (zL y0), .long (zL y1), .int (zI x2)] ∧ zGK G ∧ zSK G s ∧ ((-9223372036854775808) ≤ y0 ∧ y0 ≤ 9223372036854775807) ∧ ((-9223372036854775808) ≤ y1 ∧ y1 ≤ 9223372036854775807) ∧ ((-2147483648) ≤ x2 ∧ x2 ≤ 2147483647)) (fun G s _ => pL (fun r G2 s2 => G2 = G ∧ s2 = s ∧ ((-9223372036854775808) ≤ r ∧ r ≤ 9223372036854775807))) := by
  refine Con.mk hst (by decide) (fun G s vs h => by rw [h.1]; exact Nat.le_of_ble_eq_true rfl) ?_
  rintro X G s0 vs ⟨rfl, hG, hS0, hy0, hy1, hx2⟩ rfl hx hq
  show JJ X E 7 G s0 0 0 [(0, .long (zL y0)), (2, .long (zL y1)), (4, .int (zI x2))] 0 []
  refine j_lload_n hx 0 dX11_leastTerm_0 rfl ?_
  refine j_lconst hx dX11_leastTerm_1 ?_
  show JJ X E 7 G s0 0 0 [(0, .long (zL y0)), (2, .long (zL y1)), (4, .int (zI x2))] 2 [.long (zL 0), .long (zL y0)]
  refine j_lcmp hx dX11_leastTerm_2 (by omega) (by omega) (fun v1 f2 f3 f4 => ?_)
  have f5 : -1 ≤ v1 ∧ v1 ≤ 1 := by omega
  refine j_if_le hx 12 dX11_leastTerm_3 rfl (by omega) (fun h6 => ?_) (fun h6 => ?_)
  · skip
    refine j_iload hx 2 dX11_leastTerm_12 rfl ?_
    refine j_i2l hx dX11_leastTerm_14 (by omega) ?_
    exact j_lret hx hq rfl (by decide) (by decide) dX11_leastTerm_15 ⟨x2, rfl, rfl, rfl, (by omega)⟩
  · skip
    refine j_lload_n hx 1 dX11_leastTerm_6 rfl ?_
    refine j_lconst hx dX11_leastTerm_7 ?_
    show JJ X E 7 G s0 0 0 [(0, .long (zL y0)), (2, .long (zL y1)), (4, .int (zI x2))] 8 [.long (zL 0), .long (zL y1)]
    refine j_lcmp hx dX11_leastTerm_8 (by omega) (by omega) (fun v7 f8 f9 f10 => ?_)
    have f11 : -1 ≤ v7 ∧ v7 ≤ 1 := by omega
    refine j_if_gt hx 16 dX11_leastTerm_9 rfl (by omega) (fun h12 => ?_) (fun h12 => ?_)
    · skip
      refine j_lload_n hx 0 dX11_leastTerm_16 rfl ?_
      refine j_lload_n hx 1 dX11_leastTerm_17 rfl ?_
      refine j_callS hx (c_X11_commonDivisor hst y0 y1) lk_RX11_362 [.long (zL y0), .long (zL y1)] ⟨rfl, hG, hS0, (by omega), (by omega)⟩ rfl rfl ⟨by decide, by decide⟩ ⟨by decide, by decide⟩ (k2 := 0) (n2 := 0) rfl rfl (Nat.le_of_ble_eq_true rfl) dX11_leastTerm_18 (kLP (fun v13 q14 => ?_))
      refine j_lstore hx [(5, .long (zL v13)), (0, .long (zL y0)), (2, .long (zL y1)), (4, .int (zI x2))] dX11_leastTerm_21 (by decide) rfl ?_
      refine j_lload hx 0 dX11_leastTerm_23 rfl ?_
      refine j_lconst hx dX11_leastTerm_25 ?_
      show JJ X E 7 G s0 0 0 [(5, .long (zL v13)), (0, .long (zL y0)), (2, .long (zL y1)), (4, .int (zI x2))] 26 [.long (zL 0), .long (zL v13)]
      refine j_lcmp hx dX11_leastTerm_26 (by omega) (by omega) (fun v15 f16 f17 f18 => ?_)
      have f19 : -1 ≤ v15 ∧ v15 ≤ 1 := by omega
      refine j_if_gt hx 41 dX11_leastTerm_27 rfl (by omega) (fun h20 => ?_) (fun h20 => ?_)
      · skip
        refine j_iload hx 3 dX11_leastTerm_41 rfl ?_
        refine j_if_ne hx 53 dX11_leastTerm_43 rfl (by omega) (fun h21 => ?_) (fun h21 => ?_)
        · skip
          refine j_lload_n hx 2 dX11_leastTerm_53 rfl ?_
          refine j_lload hx 0 dX11_leastTerm_54 rfl ?_
          refine j_ldiv hx dX11_leastTerm_56 (by omega) (by omega) (fun w22 f23 f24 => ?_)
          exact j_lret hx hq rfl (by decide) (by decide) dX11_leastTerm_57 ⟨w22, rfl, rfl, rfl, (by omega)⟩
        · skip
          refine j_lload_n hx 1 dX11_leastTerm_46 rfl ?_
          refine j_lload hx 0 dX11_leastTerm_47 rfl ?_
          refine j_ldiv hx dX11_leastTerm_49 (by omega) (by omega) (fun w25 f26 f27 => ?_)
          refine j_goto hx 57 dX11_leastTerm_50 rfl ?_
          exact j_lret hx hq rfl (by decide) (by decide) dX11_leastTerm_57 ⟨w25, rfl, rfl, rfl, (by omega)⟩
      · skip
        refine j_iload hx 3 dX11_leastTerm_30 rfl ?_
        refine j_if_ne hx 39 dX11_leastTerm_32 rfl (by omega) (fun h28 => ?_) (fun h28 => ?_)
        · skip
          refine j_lload_n hx 2 dX11_leastTerm_39 rfl ?_
          exact j_lret hx hq rfl (by decide) (by decide) dX11_leastTerm_40 ⟨y1, rfl, rfl, rfl, (by omega)⟩
        · skip
          refine j_lload_n hx 1 dX11_leastTerm_35 rfl ?_
          refine j_goto hx 40 dX11_leastTerm_36 rfl ?_
          exact j_lret hx hq rfl (by decide) (by decide) dX11_leastTerm_40 ⟨y0, rfl, rfl, rfl, (by omega)⟩
    · skip
      refine j_iload hx 2 dX11_leastTerm_12 rfl ?_
      refine j_i2l hx dX11_leastTerm_14 (by omega) ?_
      exact j_lret hx hq rfl (by decide) (by decide) dX11_leastTerm_15 ⟨x2, rfl, rfl, rfl, (by omega)⟩

theorem lk_RX11_259 : LkV RX11 259 RX0 yX0_sourceOf cX0_sourceOf 3 (some (.object "SnapHeaps$Pile")) 1 := ⟨km_RX11_259, ki_yX0_sourceOf, ks_RX0_yX0_sourceOf, kn_RX0, kc_yX0_sourceOf, rfl, by decide +kernel, by decide +kernel, by decide +kernel⟩
theorem lk_RX11_268 : LkS RX11 268 yX11_leastTerm cX11_leastTerm 7 (some .long) 3 := ⟨km_RX11_268, kst_yX11_leastTerm, kn_RX11, kc_yX11_leastTerm, by decide +kernel, by decide +kernel, by decide +kernel⟩
theorem lk_RX11_265 : LkV RX11 265 RX0 yX0_isOtherTop cX0_isOtherTop 4 (some .boolean) 2 := ⟨km_RX11_265, ki_yX0_isOtherTop, ks_RX0_yX0_isOtherTop, kn_RX0, kc_yX0_isOtherTop, rfl, by decide +kernel, by decide +kernel, by decide +kernel⟩
theorem lk_RX11_262 : LkV RX11 262 RX0 yX0_firstHasLain cX0_firstHasLain 3 (some .boolean) 1 := ⟨km_RX11_262, ki_yX0_firstHasLain, ks_RX0_yX0_firstHasLain, kn_RX0, kc_yX0_firstHasLain, rfl, by decide +kernel, by decide +kernel, by decide +kernel⟩
set_option maxHeartbeats 4000000 in
set_option maxRecDepth 20000 in
theorem c_X11_chance {E : zE} {l : Launch} (hst : l.stackTraces = false) (a : Nat) (x1 : Int) (x2 : Int) (x3 : Int) : ConX E l yX11_chance cX11_chance 9 (some .int) { frames := 7, cells := 3, slots := 18, locals := 113 } (fun G s vs => vs = [.ref a, .int (zI x1), .int (zI x2), .int (zI x3)] ∧ zGK G ∧ zSK G s ∧ (gT G a = 12) ∧ ((-2147483648) ≤ x1 ∧ x1 ≤ 2147483647) ∧ ((-2147483648) ≤ x2 ∧ x2 ≤ 2147483647) ∧ ((-2147483648) ≤ x3 ∧ x3 ≤ 2147483647)) (fun G s _ => pI (fun r G2 s2 => G2 = G ∧ s2 = s ∧ ((-2147483648) ≤ r ∧ r ≤ 2147483647))) (fun G s _ Ex G2 s2 => G2 = G ∧ zSK G s2 ∧ zFr [12] G s s2 ∧ ((Ex = "java/lang/IllegalArgumentException" ∧ (True)) ∨ (Ex = "java/util/NoSuchElementException" ∧ (True)))) := by
  refine ConX.mk hst (by decide) (fun G s vs h => by rw [h.1]; exact Nat.le_of_ble_eq_true rfl) ?_
  rintro X G s0 vs ⟨rfl, hG, hS0, ha, hx1, hx2, hx3⟩ rfl hx hq
  show JJ X E 9 G s0 0 0 [(0, .ref a), (1, .int (zI x1)), (2, .int (zI x2)), (3, .int (zI x3))] 0 []
  refine j_aload_n hx 0 dX11_chance_0 rfl ?_
  refine j_iload_n hx 1 dX11_chance_1 rfl ?_
  refine j_callVX hx hq hG (c_X11_needPlayer hst a x1) lk_RX11_134 ha (by decide) rfl rfl rfl rfl [.int (zI x1)] ⟨rfl, hG, hS0, ha, (by omega)⟩ rfl rfl ⟨by decide, by decide⟩ ⟨by decide, by decide⟩ (k2 := 1) (n2 := 6) rfl rfl (Nat.le_of_ble_eq_true rfl) ⟨by decide, by decide⟩ dX11_chance_2 (by rintro Ex9 G9 s9 ⟨rfl, hS9, hF9, e9, c9⟩; exact ⟨rfl, hS9, (zFr_t zFr_rf hF9 (by decide)), Or.inr ⟨e9, by first | trivial | omega⟩⟩) (kVP (fun q2 => ?_))
  refine j_aload_n hx 0 dX11_chance_5 rfl ?_
  refine j_iload_n hx 2 dX11_chance_6 rfl ?_
  refine j_callVX hx hq hG (c_X11_needPlayer hst a x2) lk_RX11_134 ha (by decide) rfl rfl rfl rfl [.int (zI x2)] ⟨rfl, hG, hS0, ha, (by omega)⟩ rfl rfl ⟨by decide, by decide⟩ ⟨by decide, by decide⟩ (k2 := 2) (n2 := 12) rfl rfl (Nat.le_of_ble_eq_true rfl) ⟨by decide, by decide⟩ dX11_chance_7 (by rintro Ex9 G9 s9 ⟨rfl, hS9, hF9, e9, c9⟩; exact ⟨rfl, hS9, (zFr_t zFr_rf hF9 (by decide)), Or.inr ⟨e9, by first | trivial | omega⟩⟩) (kVP (fun q4 => ?_))
  refine j_aload_n hx 0 dX11_chance_10 rfl ?_
  refine j_iload_n hx 3 dX11_chance_11 rfl ?_
  refine j_iconst hx dX11_chance_12 ?_
  refine j_iconst hx dX11_chance_13 ?_
  refine j_callVX hx hq hG (c_X11_needRange hst a x3 0 1) lk_RX11_98 ha (by decide) rfl rfl rfl rfl [.int (zI x3), .int (zI 0), .int (zI 1)] ⟨rfl, hG, hS0, ha, (by omega), (by omega), (by omega)⟩ rfl rfl ⟨by decide, by decide⟩ ⟨by decide, by decide⟩ (k2 := 3) (n2 := 18) rfl rfl (Nat.le_of_ble_eq_true rfl) ⟨by decide, by decide⟩ dX11_chance_14 (by rintro Ex9 G9 s9 ⟨rfl, hS9, hF9, e9, c9⟩; exact ⟨rfl, hS9, (zFr_t zFr_rf hF9 (by decide)), Or.inl ⟨e9, by first | trivial | omega⟩⟩) (kVP (fun q6 => ?_))
  refine j_aload_n hx 0 dX11_chance_17 rfl ?_
  refine g12_6 hx hG ha kf_RX11_48 dX11_chance_18 ?_
  refine gN4_1 hx hG (zr (k := 6) (t2 := 4) hG ha rfl) kf_RX11_155 dX11_chance_21 ?_
  refine j_astore hx [(4, .ref (gP G (gP G a 6) 1)), (0, .ref a), (1, .int (zI x1)), (2, .int (zI x2)), (3, .int (zI x3))] dX11_chance_24 (by decide) rfl ?_
  refine j_aload hx 0 dX11_chance_26 rfl ?_
  refine j_iload_n hx 2 dX11_chance_28 rfl ?_
  refine j_callV hx hG (c_X0_sourceOf hst (gP G (gP G a 6) 1) x1) lk_RX11_259 (zr (k := 1) (t2 := 1) hG (zr (k := 6) (t2 := 4) hG ha rfl) rfl) (by decide) rfl rfl rfl rfl [.int (zI x1)] ⟨rfl, hG, hS0, (zr (k := 1) (t2 := 1) hG (zr (k := 6) (t2 := 4) hG ha rfl) rfl), (by omega)⟩ rfl rfl ⟨by decide, by decide⟩ ⟨by decide, by decide⟩ (k2 := 3) (n2 := 18) rfl rfl (Nat.le_of_ble_eq_true rfl) dX11_chance_29 (kRP (fun r7 q8 => ?_))
  refine j_astore hx [(5, .ref r7), (4, .ref (gP G (gP G a 6) 1)), (0, .ref a), (1, .int (zI x1)), (2, .int (zI x2)), (3, .int (zI x3))] dX11_chance_32 (by decide) rfl ?_
  refine j_aload hx 0 dX11_chance_34 rfl ?_
  have f9 := zf hS0 q8 (k := 1) rfl
  refine gN7_1 hx hG q8 kf_RX11_175 rfl dX11_chance_36 ?_
  refine j_istore hx [(6, .int (zI ((s0 r7 1)))), (5, .ref r7), (4, .ref (gP G (gP G a 6) 1)), (0, .ref a), (1, .int (zI x1)), (2, .int (zI x2)), (3, .int (zI x3))] dX11_chance_39 (by decide) rfl ?_
  refine j_iconst hx dX11_chance_41 ?_
  refine j_istore hx [(7, .int (zI 0)), (6, .int (zI ((s0 r7 1)))), (5, .ref r7), (4, .ref (gP G (gP G a 6) 1)), (0, .ref a), (1, .int (zI x1)), (2, .int (zI x2)), (3, .int (zI x3))] dX11_chance_42 (by decide) rfl ?_
  refine j_iload hx 1 dX11_chance_44 rfl ?_
  have c141_1 : ∀ (v10 : Int) (v11 : Int), (0 ≤ v10 ∧ v10 ≤ 60) → ((-2147483648) ≤ v11 ∧ v11 ≤ 2147483647) → JJ X E 9 G s0 3 18 [(3, .int (zI x3)), (6, .int (zI v10)), (7, .int (zI v11))] 141 [] := by
    intro v10 v11 fA2 fA3
    refine j_iload hx 2 dX11_chance_141 rfl ?_
    refine j_i2l hx dX11_chance_143 (by omega) ?_
    refine j_iload hx 1 dX11_chance_144 rfl ?_
    refine j_i2l hx dX11_chance_146 (by omega) ?_
    refine j_iload_n hx 0 dX11_chance_147 rfl ?_
    refine j_callS hx (c_X11_leastTerm hst v11 v10 x3) lk_RX11_268 [.long (zL v11), .long (zL v10), .int (zI x3)] ⟨rfl, hG, hS0, (by omega), (by omega), (by omega)⟩ rfl rfl ⟨by decide, by decide⟩ ⟨by decide, by decide⟩ (k2 := 3) (n2 := 18) rfl rfl (Nat.le_of_ble_eq_true rfl) dX11_chance_148 (kLP (fun v12 q13 => ?_))
    refine j_l2i hx dX11_chance_151 (by omega) (fun v14 f15 f16 f17 => ?_)
    exact j_iret hx hq.r rfl (by decide) (by decide) dX11_chance_152 ⟨v14, rfl, rfl, rfl, (by omega)⟩
  have c99_4 : JJ X E 9 G s0 3 18 [(1, .int (zI x1)), (3, .int (zI x3)), (4, .ref (gP G (gP G a 6) 1)), (5, .ref r7), (6, .int (zI ((s0 r7 1)))), (7, .int (zI 0))] 99 [] := by
    refine j_iconst hx dX11_chance_99 ?_
    refine j_istore hx [(8, .int (zI 0)), (1, .int (zI x1)), (3, .int (zI x3)), (4, .ref (gP G (gP G a 6) 1)), (5, .ref r7), (6, .int (zI ((s0 r7 1)))), (7, .int (zI 0))] dX11_chance_100 (by decide) rfl ?_
    have c102_5 : ∀ (m_c102_5 : Nat) (v18 : Int) (v19 : Int), 2147483648 - v19 < m_c102_5 → ((-2147483648) ≤ v18 ∧ v18 ≤ 2147483647) → (0 ≤ v19 ∧ v19 ≤ 60) → JJ X E 9 G s0 3 18 [(1, .int (zI x1)), (3, .int (zI x3)), (4, .ref (gP G (gP G a 6) 1)), (5, .ref r7), (6, .int (zI ((s0 r7 1)))), (7, .int (zI v18)), (8, .int (zI v19))] 102 [] := by
      intro m_c102_5
      induction m_c102_5 with
      | zero => intro v18 v19 hm_c102_5 fA6 fA7; exfalso; omega
      | succ m_c102_5 ih_c102_5 => 
        intro v18 v19 hm_c102_5 fA6 fA7
        refine j_iload hx 6 dX11_chance_102 rfl ?_
        refine j_iload hx 4 dX11_chance_104 rfl ?_
        refine j_icmp_ge hx 141 dX11_chance_106 rfl (by omega) (by omega) (fun h20 => ?_) (fun h20 => ?_)
        · skip
          exact j_sub [1, 4, 5] [(3, .int (zI x3)), (6, .int (zI ((s0 r7 1)))), (7, .int (zI v18))] rfl (c141_1 ((s0 r7 1)) v18 (by omega) (by omega))
        · skip
          refine j_iload hx 5 dX11_chance_109 rfl ?_
          refine j_aload hx 2 dX11_chance_111 rfl ?_
          refine j_iload_n hx 0 dX11_chance_113 rfl ?_
          refine j_aload hx 3 dX11_chance_114 rfl ?_
          refine j_iload hx 6 dX11_chance_116 rfl ?_
          refine j_callV hx hG (c_X6_kindAt hst r7 v19) lk_RX11_197 q8 (by decide) rfl rfl rfl rfl [.int (zI v19)] ⟨rfl, hG, hS0, q8, (by omega)⟩ rfl rfl ⟨by decide, by decide⟩ ⟨by decide, by decide⟩ (k2 := 3) (n2 := 18) rfl rfl (Nat.le_of_ble_eq_true rfl) dX11_chance_118 (kIP (fun v21 q22 => ?_))
          refine j_callV hx hG (c_X0_isOtherTop hst (gP G (gP G a 6) 1) x1 v21) lk_RX11_265 (zr (k := 1) (t2 := 1) hG (zr (k := 6) (t2 := 4) hG ha rfl) rfl) (by decide) rfl rfl rfl rfl [.int (zI x1), .int (zI v21)] ⟨rfl, hG, hS0, (zr (k := 1) (t2 := 1) hG (zr (k := 6) (t2 := 4) hG ha rfl) rfl), (by omega), (by omega)⟩ rfl rfl ⟨by decide, by decide⟩ ⟨by decide, by decide⟩ (k2 := 3) (n2 := 18) rfl rfl (Nat.le_of_ble_eq_true rfl) dX11_chance_121 (kIP (fun v23 q24 => ?_))
          have c132_8 : ∀ (v25 : Int), (0 ≤ v25 ∧ v25 ≤ 1) → JJ X E 9 G s0 3 18 [(1, .int (zI x1)), (3, .int (zI x3)), (4, .ref (gP G (gP G a 6) 1)), (5, .ref r7), (6, .int (zI ((s0 r7 1)))), (8, .int (zI v19))] 132 [.int (zI v25), .int (zI v18)] := by
            intro v25 fA9
            refine j_iadd hx (r := v18 + v25) dX11_chance_132 rfl ?_
            refine j_norm (fun v26 f27 f28 f29 => ?_)
            refine j_istore hx [(7, .int (zI v26)), (1, .int (zI x1)), (3, .int (zI x3)), (4, .ref (gP G (gP G a 6) 1)), (5, .ref r7), (6, .int (zI ((s0 r7 1)))), (8, .int (zI v19))] dX11_chance_133 (by decide) rfl ?_
            refine j_iinc hx 6 [(8, .int (zI (v19 + 1))), (7, .int (zI v26)), (1, .int (zI x1)), (3, .int (zI x3)), (4, .ref (gP G (gP G a 6) 1)), (5, .ref r7), (6, .int (zI ((s0 r7 1))))] dX11_chance_135 rfl (by omega) (by decide) rfl ?_
            refine j_goto hx 102 dX11_chance_138 rfl ?_
            exact j_sub [2, 3, 4, 5, 6, 1, 0] [(1, .int (zI x1)), (3, .int (zI x3)), (4, .ref (gP G (gP G a 6) 1)), (5, .ref r7), (6, .int (zI ((s0 r7 1)))), (7, .int (zI v26)), (8, .int (zI (v19 + 1)))] rfl (ih_c102_5 v26 (v19 + 1) (by omega) (by omega) (by omega))
          refine j_if_eq hx 131 dX11_chance_124 rfl (by omega) (fun h30 => ?_) (fun h30 => ?_)
          · skip
            refine j_iconst hx dX11_chance_131 ?_
            exact j_sub [0, 1, 2, 3, 4, 6] [(1, .int (zI x1)), (3, .int (zI x3)), (4, .ref (gP G (gP G a 6) 1)), (5, .ref r7), (6, .int (zI ((s0 r7 1)))), (8, .int (zI v19))] rfl (c132_8 0 (by omega))
          · skip
            refine j_iconst hx dX11_chance_127 ?_
            refine j_goto hx 132 dX11_chance_128 rfl ?_
            exact j_sub [0, 1, 2, 3, 4, 6] [(1, .int (zI x1)), (3, .int (zI x3)), (4, .ref (gP G (gP G a 6) 1)), (5, .ref r7), (6, .int (zI ((s0 r7 1)))), (8, .int (zI v19))] rfl (c132_8 1 (by omega))
    exact j_sub [1, 2, 3, 4, 5, 6, 0] [(1, .int (zI x1)), (3, .int (zI x3)), (4, .ref (gP G (gP G a 6) 1)), (5, .ref r7), (6, .int (zI ((s0 r7 1)))), (7, .int (zI 0)), (8, .int (zI 0))] rfl (c102_5 (2147483648 * 4) 0 0 (by omega) (by omega) (by omega))
  refine j_if_le hx 99 dX11_chance_46 rfl (by omega) (fun h31 => ?_) (fun h31 => ?_)
  · skip
    exact j_sub [5, 7, 3, 2, 1, 0] [(1, .int (zI x1)), (3, .int (zI x3)), (4, .ref (gP G (gP G a 6) 1)), (5, .ref r7), (6, .int (zI ((s0 r7 1)))), (7, .int (zI 0))] rfl (c99_4  )
  · skip
    refine j_aload hx 3 dX11_chance_49 rfl ?_
    refine j_iload_n hx 5 dX11_chance_51 rfl ?_
    refine j_callV hx hG (c_X0_firstHasLain hst (gP G (gP G a 6) 1) x1) lk_RX11_262 (zr (k := 1) (t2 := 1) hG (zr (k := 6) (t2 := 4) hG ha rfl) rfl) (by decide) rfl rfl rfl rfl [.int (zI x1)] ⟨rfl, hG, hS0, (zr (k := 1) (t2 := 1) hG (zr (k := 6) (t2 := 4) hG ha rfl) rfl), (by omega)⟩ rfl rfl ⟨by decide, by decide⟩ ⟨by decide, by decide⟩ (k2 := 3) (n2 := 18) rfl rfl (Nat.le_of_ble_eq_true rfl) dX11_chance_52 (kIP (fun v32 q33 => ?_))
    refine j_if_eq hx 99 dX11_chance_55 rfl (by omega) (fun h34 => ?_) (fun h34 => ?_)
    · skip
      exact j_sub [5, 7, 3, 2, 1, 0] [(1, .int (zI x1)), (3, .int (zI x3)), (4, .ref (gP G (gP G a 6) 1)), (5, .ref r7), (6, .int (zI ((s0 r7 1)))), (7, .int (zI 0))] rfl (c99_4  )
    · skip
      refine j_aload_n hx 4 dX11_chance_58 rfl ?_
      refine g12_1 hx hG ha kf_RX11_19 dX11_chance_59 ?_
      refine j_iload_n hx 6 dX11_chance_62 rfl ?_
      refine j_iconst hx dX11_chance_63 ?_
      refine j_callV hx hG (c_X8_trait hst (gP G a 1) x2 1) lk_RX11_184 (zr (k := 1) (t2 := 9) hG ha rfl) (by decide) rfl rfl rfl rfl [.int (zI x2), .int (zI 1)] ⟨rfl, hG, hS0, (zr (k := 1) (t2 := 9) hG ha rfl), (by omega), (by omega)⟩ rfl rfl ⟨by decide, by decide⟩ ⟨by decide, by decide⟩ (k2 := 3) (n2 := 18) rfl rfl (Nat.le_of_ble_eq_true rfl) dX11_chance_64 (kIP (fun v35 q36 => ?_))
      refine j_iconst hx dX11_chance_67 ?_
      refine j_icmp_lt hx 99 dX11_chance_68 rfl (by omega) ⟨by decide, by decide⟩ (fun h37 => ?_) (fun h37 => ?_)
      · skip
        exact j_sub [5, 7, 3, 2, 1, 0] [(1, .int (zI x1)), (3, .int (zI x3)), (4, .ref (gP G (gP G a 6) 1)), (5, .ref r7), (6, .int (zI ((s0 r7 1)))), (7, .int (zI 0))] rfl (c99_4  )
      · skip
        refine j_iconst hx dX11_chance_71 ?_
        refine j_istore hx [(6, .int (zI 1)), (7, .int (zI 0)), (5, .ref r7), (4, .ref (gP G (gP G a 6) 1)), (0, .ref a), (1, .int (zI x1)), (2, .int (zI x2)), (3, .int (zI x3))] dX11_chance_72 (by decide) rfl ?_
        refine j_aload hx 3 dX11_chance_74 rfl ?_
        refine j_iload_n hx 5 dX11_chance_76 rfl ?_
        refine j_aload hx 2 dX11_chance_77 rfl ?_
        refine j_iconst hx dX11_chance_79 ?_
        refine j_callV hx hG (c_X6_kindAt hst r7 0) lk_RX11_197 q8 (by decide) rfl rfl rfl rfl [.int (zI 0)] ⟨rfl, hG, hS0, q8, (by omega)⟩ rfl rfl ⟨by decide, by decide⟩ ⟨by decide, by decide⟩ (k2 := 3) (n2 := 18) rfl rfl (Nat.le_of_ble_eq_true rfl) dX11_chance_80 (kIP (fun v38 q39 => ?_))
        refine j_callV hx hG (c_X0_isOtherTop hst (gP G (gP G a 6) 1) x1 v38) lk_RX11_265 (zr (k := 1) (t2 := 1) hG (zr (k := 6) (t2 := 4) hG ha rfl) rfl) (by decide) rfl rfl rfl rfl [.int (zI x1), .int (zI v38)] ⟨rfl, hG, hS0, (zr (k := 1) (t2 := 1) hG (zr (k := 6) (t2 := 4) hG ha rfl) rfl), (by omega), (by omega)⟩ rfl rfl ⟨by decide, by decide⟩ ⟨by decide, by decide⟩ (k2 := 3) (n2 := 18) rfl rfl (Nat.le_of_ble_eq_true rfl) dX11_chance_83 (kIP (fun v40 q41 => ?_))
        have c94_10 : ∀ (v42 : Int), (0 ≤ v42 ∧ v42 ≤ 1) → JJ X E 9 G s0 3 18 [(3, .int (zI x3)), (6, .int (zI 1))] 94 [.int (zI v42)] := by
          intro v42 fA11
          refine j_istore hx [(7, .int (zI v42)), (3, .int (zI x3)), (6, .int (zI 1))] dX11_chance_94 (by decide) rfl ?_
          refine j_goto hx 141 dX11_chance_96 rfl ?_
          exact j_sub [1, 2, 0] [(3, .int (zI x3)), (6, .int (zI 1)), (7, .int (zI v42))] rfl (c141_1 1 v42 (by omega) (by omega))
        refine j_if_eq hx 93 dX11_chance_86 rfl (by omega) (fun h43 => ?_) (fun h43 => ?_)
        · skip
          refine j_iconst hx dX11_chance_93 ?_
          exact j_sub [7, 0] [(3, .int (zI x3)), (6, .int (zI 1))] rfl (c94_10 0 (by omega))
        · skip
          refine j_iconst hx dX11_chance_89 ?_
          refine j_goto hx 94 dX11_chance_90 rfl ?_
          exact j_sub [7, 0] [(3, .int (zI x3)), (6, .int (zI 1))] rfl (c94_10 1 (by omega))

set_option maxHeartbeats 4000000 in
set_option maxRecDepth 20000 in
theorem c_X11_needWager {E : zE} {l : Launch} (hst : l.stackTraces = false) (a : Nat) (x1 : Int) (x2 : Int) (x3 : Int) (x4 : Int) : ConX E l yX11_needWager cX11_needWager 5 none { frames := 7, cells := 4, slots := 24, locals := 113 } (fun G s vs => vs = [.ref a, .int (zI x1), .int (zI x2), .int (zI x3), .int (zI x4)] ∧ zGK G ∧ zSK G s ∧ (gT G a = 12) ∧ ((-2147483648) ≤ x1 ∧ x1 ≤ 2147483647) ∧ ((-2147483648) ≤ x2 ∧ x2 ≤ 2147483647) ∧ ((-2147483648) ≤ x3 ∧ x3 ≤ 2147483647) ∧ ((-2147483648) ≤ x4 ∧ x4 ≤ 2147483647)) (fun G s _ => pV (fun G2 s2 => G2 = G ∧ s2 = s ∧ True)) (fun G s _ Ex G2 s2 => G2 = G ∧ zSK G s2 ∧ zFr [12] G s s2 ∧ ((Ex = "java/lang/IllegalArgumentException" ∧ (True)))) := by
  refine ConX.mk hst (by decide) (fun G s vs h => by rw [h.1]; exact Nat.le_of_ble_eq_true rfl) ?_
  rintro X G s0 vs ⟨rfl, hG, hS0, ha, hx1, hx2, hx3, hx4⟩ rfl hx hq
  show JJ X E 5 G s0 0 0 [(0, .ref a), (1, .int (zI x1)), (2, .int (zI x2)), (3, .int (zI x3)), (4, .int (zI x4))] 0 []
  refine j_aload_n hx 0 dX11_needWager_0 rfl ?_
  refine j_iload_n hx 2 dX11_needWager_1 rfl ?_
  refine j_iconst hx dX11_needWager_2 ?_
  refine j_bipush hx dX11_needWager_3 rfl ?_
  refine j_callVX hx hq hG (c_X11_needRange hst a x2 1 99) lk_RX11_98 ha (by decide) rfl rfl rfl rfl [.int (zI x2), .int (zI 1), .int (zI 99)] ⟨rfl, hG, hS0, ha, (by omega), (by omega), (by omega)⟩ rfl rfl ⟨by decide, by decide⟩ ⟨by decide, by decide⟩ (k2 := 1) (n2 := 6) rfl rfl (Nat.le_of_ble_eq_true rfl) ⟨by decide, by decide⟩ dX11_needWager_5 (by rintro Ex9 G9 s9 ⟨rfl, hS9, hF9, e9, c9⟩; exact ⟨rfl, hS9, (zFr_t zFr_rf hF9 (by decide)), ⟨e9, by first | trivial | omega⟩⟩) (kVP (fun q2 => ?_))
  refine j_aload_n hx 0 dX11_needWager_8 rfl ?_
  refine j_iload_n hx 1 dX11_needWager_9 rfl ?_
  refine j_iconst hx dX11_needWager_10 ?_
  refine j_iload_n hx 2 dX11_needWager_11 rfl ?_
  refine j_callVX hx hq hG (c_X11_needRange hst a x1 0 x2) lk_RX11_98 ha (by decide) rfl rfl rfl rfl [.int (zI x1), .int (zI 0), .int (zI x2)] ⟨rfl, hG, hS0, ha, (by omega), (by omega), (by omega)⟩ rfl rfl ⟨by decide, by decide⟩ ⟨by decide, by decide⟩ (k2 := 2) (n2 := 12) rfl rfl (Nat.le_of_ble_eq_true rfl) ⟨by decide, by decide⟩ dX11_needWager_12 (by rintro Ex9 G9 s9 ⟨rfl, hS9, hF9, e9, c9⟩; exact ⟨rfl, hS9, (zFr_t zFr_rf hF9 (by decide)), ⟨e9, by first | trivial | omega⟩⟩) (kVP (fun q4 => ?_))
  refine j_aload_n hx 0 dX11_needWager_15 rfl ?_
  refine j_iload_n hx 3 dX11_needWager_16 rfl ?_
  refine j_iconst hx dX11_needWager_17 ?_
  refine j_bipush hx dX11_needWager_18 rfl ?_
  refine j_callVX hx hq hG (c_X11_needRange hst a x3 0 99) lk_RX11_98 ha (by decide) rfl rfl rfl rfl [.int (zI x3), .int (zI 0), .int (zI 99)] ⟨rfl, hG, hS0, ha, (by omega), (by omega), (by omega)⟩ rfl rfl ⟨by decide, by decide⟩ ⟨by decide, by decide⟩ (k2 := 3) (n2 := 18) rfl rfl (Nat.le_of_ble_eq_true rfl) ⟨by decide, by decide⟩ dX11_needWager_20 (by rintro Ex9 G9 s9 ⟨rfl, hS9, hF9, e9, c9⟩; exact ⟨rfl, hS9, (zFr_t zFr_rf hF9 (by decide)), ⟨e9, by first | trivial | omega⟩⟩) (kVP (fun q6 => ?_))
  refine j_aload_n hx 0 dX11_needWager_23 rfl ?_
  refine j_iload hx 4 dX11_needWager_24 rfl ?_
  refine j_iconst hx dX11_needWager_26 ?_
  refine j_bipush hx dX11_needWager_27 rfl ?_
  refine j_callVX hx hq hG (c_X11_needRange hst a x4 0 99) lk_RX11_98 ha (by decide) rfl rfl rfl rfl [.int (zI x4), .int (zI 0), .int (zI 99)] ⟨rfl, hG, hS0, ha, (by omega), (by omega), (by omega)⟩ rfl rfl ⟨by decide, by decide⟩ ⟨by decide, by decide⟩ (k2 := 4) (n2 := 24) rfl rfl (Nat.le_of_ble_eq_true rfl) ⟨by decide, by decide⟩ dX11_needWager_29 (by rintro Ex9 G9 s9 ⟨rfl, hS9, hF9, e9, c9⟩; exact ⟨rfl, hS9, (zFr_t zFr_rf hF9 (by decide)), ⟨e9, by first | trivial | omega⟩⟩) (kVP (fun q8 => ?_))
  exact j_vret hx hq.r rfl (by decide) (by decide) dX11_needWager_32 ⟨rfl, rfl, rfl, trivial⟩

theorem lk_RX11_272 : LkV RX11 272 RX11 yX11_needWager cX11_needWager 5 none 4 := ⟨km_RX11_272, ki_yX11_needWager, ks_RX11_yX11_needWager, kn_RX11, kc_yX11_needWager, rfl, by decide +kernel, by decide +kernel, by decide +kernel⟩
set_option maxHeartbeats 4000000 in
set_option maxRecDepth 20000 in
theorem c_X11_waits {E : zE} {l : Launch} (hst : l.stackTraces = false) (a : Nat) (x1 : Int) (x2 : Int) (x3 : Int) (x4 : Int) : ConX E l yX11_waits cX11_waits 7 (some .int) { frames := 8, cells := 4, slots := 24, locals := 137 } (fun G s vs => vs = [.ref a, .int (zI x1), .int (zI x2), .int (zI x3), .int (zI x4)] ∧ zGK G ∧ zSK G s ∧ (gT G a = 12) ∧ ((-2147483648) ≤ x1 ∧ x1 ≤ 2147483647) ∧ ((-2147483648) ≤ x2 ∧ x2 ≤ 2147483647) ∧ ((-2147483648) ≤ x3 ∧ x3 ≤ 2147483647) ∧ ((-2147483648) ≤ x4 ∧ x4 ≤ 2147483647)) (fun G s _ => pI (fun r G2 s2 => G2 = G ∧ s2 = s ∧ ((-2147483648) ≤ r ∧ r ≤ 2147483647))) (fun G s _ Ex G2 s2 => G2 = G ∧ zSK G s2 ∧ zFr [12] G s s2 ∧ ((Ex = "java/lang/IllegalArgumentException" ∧ (True)))) := by
  refine ConX.mk hst (by decide) (fun G s vs h => by rw [h.1]; exact Nat.le_of_ble_eq_true rfl) ?_
  rintro X G s0 vs ⟨rfl, hG, hS0, ha, hx1, hx2, hx3, hx4⟩ rfl hx hq
  show JJ X E 7 G s0 0 0 [(0, .ref a), (1, .int (zI x1)), (2, .int (zI x2)), (3, .int (zI x3)), (4, .int (zI x4))] 0 []
  refine j_aload_n hx 0 dX11_waits_0 rfl ?_
  refine j_iload_n hx 1 dX11_waits_1 rfl ?_
  refine j_iload_n hx 2 dX11_waits_2 rfl ?_
  refine j_iload_n hx 3 dX11_waits_3 rfl ?_
  refine j_iload hx 4 dX11_waits_4 rfl ?_
  refine j_callVX hx hq hG (c_X11_needWager hst a x1 x2 x3 x4) lk_RX11_272 ha (by decide) rfl rfl rfl rfl [.int (zI x1), .int (zI x2), .int (zI x3), .int (zI x4)] ⟨rfl, hG, hS0, ha, (by omega), (by omega), (by omega), (by omega)⟩ rfl rfl ⟨by decide, by decide⟩ ⟨by decide, by decide⟩ (k2 := 4) (n2 := 24) rfl rfl (Nat.le_of_ble_eq_true rfl) ⟨by decide, by decide⟩ dX11_waits_6 (by rintro Ex9 G9 s9 ⟨rfl, hS9, hF9, e9, c9⟩; exact ⟨rfl, hS9, (zFr_t zFr_rf hF9 (by decide)), ⟨e9, by first | trivial | omega⟩⟩) (kVP (fun q2 => ?_))
  refine j_iload_n hx 1 dX11_waits_9 rfl ?_
  refine j_iload_n hx 3 dX11_waits_10 rfl ?_
  refine j_imul hx (r := (x1 * x3)) dX11_waits_11 rfl ?_
  have f3 : 0 ≤ (x1 * x3) ∧ (x1 * x3) ≤ 99 * 99 := zmulnn (by omega) (by omega)
  refine j_iload_n hx 2 dX11_waits_12 rfl ?_
  refine j_iload_n hx 1 dX11_waits_13 rfl ?_
  refine j_isub hx (r := x2 - x1) dX11_waits_14 rfl ?_
  refine j_iload hx 4 dX11_waits_15 rfl ?_
  refine j_imul hx (r := ((x2 - x1) * x4)) dX11_waits_17 rfl ?_
  have f4 : 0 ≤ ((x2 - x1) * x4) ∧ ((x2 - x1) * x4) ≤ 99 * 99 := zmulnn (by omega) (by omega)
  refine j_isub hx (r := (x1 * x3) - ((x2 - x1) * x4)) dX11_waits_18 (by omega) ?_
  refine j_istore hx [(5, .int (zI ((x1 * x3) - ((x2 - x1) * x4)))), (0, .ref a), (1, .int (zI x1)), (2, .int (zI x2)), (3, .int (zI x3)), (4, .int (zI x4))] dX11_waits_19 (by decide) rfl ?_
  refine j_iconst hx dX11_waits_21 ?_
  refine j_istore hx [(6, .int (zI 0)), (5, .int (zI ((x1 * x3) - ((x2 - x1) * x4)))), (0, .ref a), (1, .int (zI x1)), (2, .int (zI x2)), (3, .int (zI x3)), (4, .int (zI x4))] dX11_waits_22 (by decide) rfl ?_
  have c24_1 : ∀ (m_c24_1 : Nat) (v5 : Int), 2147483648 - v5 < m_c24_1 → (0 ≤ v5 ∧ v5 ≤ 17) → JJ X E 7 G s0 4 24 [(1, .int (zI x1)), (3, .int (zI x3)), (5, .int (zI ((x1 * x3) - ((x2 - x1) * x4)))), (6, .int (zI v5))] 24 [] := by
    intro m_c24_1
    induction m_c24_1 with
    | zero => intro v5 hm_c24_1 fA2; exfalso; omega
    | succ m_c24_1 ih_c24_1 => 
      intro v5 hm_c24_1 fA2
      refine j_iload hx 3 dX11_waits_24 rfl ?_
      refine j_bipush hx dX11_waits_26 rfl ?_
      refine j_icmp_gt hx 54 dX11_waits_28 rfl (by omega) ⟨by decide, by decide⟩ (fun h6 => ?_) (fun h6 => ?_)
      · skip
        refine j_bipush hx dX11_waits_54 rfl ?_
        exact j_iret hx hq.r rfl (by decide) (by decide) dX11_waits_56 ⟨17, rfl, rfl, rfl, (by omega)⟩
      · skip
        refine j_iload hx 3 dX11_waits_31 rfl ?_
        refine j_iload_n hx 0 dX11_waits_33 rfl ?_
        refine j_imul hx (r := (v5 * x1)) dX11_waits_34 rfl ?_
        have f7 : 0 ≤ (v5 * x1) ∧ (v5 * x1) ≤ 16 * 99 := zmulnn (by omega) (by omega)
        refine j_iload_n hx 1 dX11_waits_35 rfl ?_
        refine j_imul hx (r := (((v5 * x1)) * x3)) dX11_waits_36 rfl ?_
        have f8 : 0 ≤ (((v5 * x1)) * x3) ∧ (((v5 * x1)) * x3) ≤ 1584 * 99 := zmulnn (by omega) (by omega)
        refine j_bipush hx dX11_waits_37 rfl ?_
        refine j_iload hx 2 dX11_waits_39 rfl ?_
        refine j_imul hx (r := 16 * (x1 * x3) - 16 * ((x2 - x1) * x4)) dX11_waits_41 (by omega) ?_
        refine j_icmp_lt hx 48 dX11_waits_42 rfl (by omega) (by omega) (fun h9 => ?_) (fun h9 => ?_)
        · skip
          refine j_iinc hx 3 [(6, .int (zI (v5 + 1))), (1, .int (zI x1)), (3, .int (zI x3)), (5, .int (zI ((x1 * x3) - ((x2 - x1) * x4))))] dX11_waits_48 rfl (by omega) (by decide) rfl ?_
          refine j_goto hx 24 dX11_waits_51 rfl ?_
          exact j_sub [1, 2, 3, 0] [(1, .int (zI x1)), (3, .int (zI x3)), (5, .int (zI ((x1 * x3) - ((x2 - x1) * x4)))), (6, .int (zI (v5 + 1)))] rfl (ih_c24_1 (v5 + 1) (by omega) (by omega))
        · skip
          refine j_iload hx 3 dX11_waits_45 rfl ?_
          exact j_iret hx hq.r rfl (by decide) (by decide) dX11_waits_47 ⟨v5, rfl, rfl, rfl, (by omega)⟩
  exact j_sub [3, 5, 1, 0] [(1, .int (zI x1)), (3, .int (zI x3)), (5, .int (zI ((x1 * x3) - ((x2 - x1) * x4)))), (6, .int (zI 0))] rfl (c24_1 (2147483648 * 4) 0 (by omega) (by omega))

set_option maxHeartbeats 4000000 in
set_option maxRecDepth 20000 in
theorem c_X11_ahead {E : zE} {l : Launch} (hst : l.stackTraces = false) (a : Nat) (x1 : Int) (x2 : Int) (x3 : Int) (x4 : Int) : ConX E l yX11_ahead cX11_ahead 5 (some .int) { frames := 8, cells := 4, slots := 24, locals := 137 } (fun G s vs => vs = [.ref a, .int (zI x1), .int (zI x2), .int (zI x3), .int (zI x4)] ∧ zGK G ∧ zSK G s ∧ (gT G a = 12) ∧ ((-2147483648) ≤ x1 ∧ x1 ≤ 2147483647) ∧ ((-2147483648) ≤ x2 ∧ x2 ≤ 2147483647) ∧ ((-2147483648) ≤ x3 ∧ x3 ≤ 2147483647) ∧ ((-2147483648) ≤ x4 ∧ x4 ≤ 2147483647)) (fun G s _ => pI (fun r G2 s2 => G2 = G ∧ s2 = s ∧ ((-2147483648) ≤ r ∧ r ≤ 2147483647))) (fun G s _ Ex G2 s2 => G2 = G ∧ zSK G s2 ∧ zFr [12] G s s2 ∧ ((Ex = "java/lang/IllegalArgumentException" ∧ (True)))) := by
  refine ConX.mk hst (by decide) (fun G s vs h => by rw [h.1]; exact Nat.le_of_ble_eq_true rfl) ?_
  rintro X G s0 vs ⟨rfl, hG, hS0, ha, hx1, hx2, hx3, hx4⟩ rfl hx hq
  show JJ X E 5 G s0 0 0 [(0, .ref a), (1, .int (zI x1)), (2, .int (zI x2)), (3, .int (zI x3)), (4, .int (zI x4))] 0 []
  refine j_aload_n hx 0 dX11_ahead_0 rfl ?_
  refine j_iload_n hx 1 dX11_ahead_1 rfl ?_
  refine j_iload_n hx 2 dX11_ahead_2 rfl ?_
  refine j_iload_n hx 3 dX11_ahead_3 rfl ?_
  refine j_iload hx 4 dX11_ahead_4 rfl ?_
  refine j_callVX hx hq hG (c_X11_needWager hst a x1 x2 x3 x4) lk_RX11_272 ha (by decide) rfl rfl rfl rfl [.int (zI x1), .int (zI x2), .int (zI x3), .int (zI x4)] ⟨rfl, hG, hS0, ha, (by omega), (by omega), (by omega), (by omega)⟩ rfl rfl ⟨by decide, by decide⟩ ⟨by decide, by decide⟩ (k2 := 4) (n2 := 24) rfl rfl (Nat.le_of_ble_eq_true rfl) ⟨by decide, by decide⟩ dX11_ahead_6 (by rintro Ex9 G9 s9 ⟨rfl, hS9, hF9, e9, c9⟩; exact ⟨rfl, hS9, (zFr_t zFr_rf hF9 (by decide)), ⟨e9, by first | trivial | omega⟩⟩) (kVP (fun q2 => ?_))
  refine j_iload_n hx 1 dX11_ahead_9 rfl ?_
  refine j_iload_n hx 3 dX11_ahead_10 rfl ?_
  refine j_imul hx (r := (x1 * x3)) dX11_ahead_11 rfl ?_
  have f3 : 0 ≤ (x1 * x3) ∧ (x1 * x3) ≤ 99 * 99 := zmulnn (by omega) (by omega)
  refine j_iload_n hx 2 dX11_ahead_12 rfl ?_
  refine j_iload_n hx 1 dX11_ahead_13 rfl ?_
  refine j_isub hx (r := x2 - x1) dX11_ahead_14 rfl ?_
  refine j_iload hx 4 dX11_ahead_15 rfl ?_
  refine j_imul hx (r := ((x2 - x1) * x4)) dX11_ahead_17 rfl ?_
  have f4 : 0 ≤ ((x2 - x1) * x4) ∧ ((x2 - x1) * x4) ≤ 99 * 99 := zmulnn (by omega) (by omega)
  refine j_isub hx (r := (x1 * x3) - ((x2 - x1) * x4)) dX11_ahead_18 (by omega) ?_
  exact j_iret hx hq.r rfl (by decide) (by decide) dX11_ahead_19 ⟨(x1 * x3) - ((x2 - x1) * x4), rfl, rfl, rfl, (by omega)⟩

set_option maxHeartbeats 4000000 in
set_option maxRecDepth 20000 in
theorem c_X8_payoff {E : zE} {l : Launch} (hst : l.stackTraces = false) (a : Nat) (x1 : Int) (x2 : Int) (x3 : Int) : Con E l yX8_payoff cX8_payoff 6 (some .int) { frames := 0, cells := 0, slots := 0, locals := 0 } (fun G s vs => vs = [.ref a, .int (zI x1), .int (zI x2), .int (zI x3)] ∧ zGK G ∧ zSK G s ∧ (gT G a = 9) ∧ ((-2147483648) ≤ x1 ∧ x1 ≤ 2147483647) ∧ ((-2147483648) ≤ x2 ∧ x2 ≤ 2147483647) ∧ ((-2147483648) ≤ x3 ∧ x3 ≤ 2147483647)) (fun G s _ => pI (fun r G2 s2 => G2 = G ∧ s2 = s ∧ ((-2147483648) ≤ r ∧ r ≤ 2147483647))) := by
  refine Con.mk hst (by decide) (fun G s vs h => by rw [h.1]; exact Nat.le_of_ble_eq_true rfl) ?_
  rintro X G s0 vs ⟨rfl, hG, hS0, ha, hx1, hx2, hx3⟩ rfl hx hq
  show JJ X E 6 G s0 0 0 [(0, .ref a), (1, .int (zI x1)), (2, .int (zI x2)), (3, .int (zI x3))] 0 []
  refine j_iconst hx dX8_payoff_0 ?_
  refine j_istore hx [(4, .int (zI 0)), (0, .ref a), (1, .int (zI x1)), (2, .int (zI x2)), (3, .int (zI x3))] dX8_payoff_1 (by decide) rfl ?_
  refine j_iconst hx dX8_payoff_3 ?_
  refine j_istore hx [(5, .int (zI 0)), (4, .int (zI 0)), (0, .ref a), (1, .int (zI x1)), (2, .int (zI x2)), (3, .int (zI x3))] dX8_payoff_4 (by decide) rfl ?_
  have c6_1 : ∀ (m_c6_1 : Nat) (v1 : Int) (v2 : Int), 2147483648 - v2 < m_c6_1 → ((-2147483648) ≤ v1 ∧ v1 ≤ 2147483647) → (0 ≤ v2 ∧ v2 ≤ 12) → JJ X E 6 G s0 0 0 [(0, .ref a), (1, .int (zI x1)), (2, .int (zI x2)), (3, .int (zI x3)), (4, .int (zI v1)), (5, .int (zI v2))] 6 [] := by
    intro m_c6_1
    induction m_c6_1 with
    | zero => intro v1 v2 hm_c6_1 fA2 fA3; exfalso; omega
    | succ m_c6_1 ih_c6_1 => 
      intro v1 v2 hm_c6_1 fA2 fA3
      refine j_iload hx 5 dX8_payoff_6 rfl ?_
      refine j_aload_n hx 0 dX8_payoff_8 rfl ?_
      have f3 := zf hS0 ha (k := 5) rfl
      refine g9_5 hx hG ha kf_RX8_40 rfl dX8_payoff_9 ?_
      refine j_icmp_ge hx 110 dX8_payoff_12 rfl (by omega) (by omega) (fun h4 => ?_) (fun h4 => ?_)
      · skip
        refine j_iload hx 4 dX8_payoff_110 rfl ?_
        exact j_iret hx hq rfl (by decide) (by decide) dX8_payoff_112 ⟨v1, rfl, rfl, rfl, (by omega)⟩
      · skip
        refine j_iload hx 5 dX8_payoff_15 rfl ?_
        refine j_aload_n hx 0 dX8_payoff_17 rfl ?_
        refine g9_1 hx hG ha kf_RX8_15 dX8_payoff_18 ?_
        refine j_alen hx hG (zr (k := 1) (t2 := 43) hG ha rfl) (by decide) (by decide) (zlen hG (zr (k := 1) (t2 := 43) hG ha rfl) (n := 12) rfl rfl) dX8_payoff_21 ?_
        refine j_icmp_ge hx 110 dX8_payoff_22 rfl (by omega) ⟨by decide, by decide⟩ (fun h5 => absurd h5 (by omega)) (fun h5 => ?_)
        refine j_iload_n hx 1 dX8_payoff_25 rfl ?_
        refine j_aload_n hx 0 dX8_payoff_26 rfl ?_
        refine g9_5 hx hG ha kf_RX8_40 rfl dX8_payoff_27 ?_
        refine j_icmp_ge hx 110 dX8_payoff_30 rfl (by omega) (by omega) (fun h6 => ?_) (fun h6 => ?_)
        · skip
          refine j_iload hx 4 dX8_payoff_110 rfl ?_
          exact j_iret hx hq rfl (by decide) (by decide) dX8_payoff_112 ⟨v1, rfl, rfl, rfl, (by omega)⟩
        · skip
          refine j_iload_n hx 1 dX8_payoff_33 rfl ?_
          refine j_iload hx 5 dX8_payoff_34 rfl ?_
          have c104_4 : ∀ (v7 : Int), ((-2147483648) ≤ v7 ∧ v7 ≤ 2147483647) → JJ X E 6 G s0 0 0 [(0, .ref a), (1, .int (zI x1)), (2, .int (zI x2)), (3, .int (zI x3)), (4, .int (zI v7)), (5, .int (zI v2))] 104 [] := by
            intro v7 fA5
            refine j_iinc hx 5 [(5, .int (zI (v2 + 1))), (0, .ref a), (1, .int (zI x1)), (2, .int (zI x2)), (3, .int (zI x3)), (4, .int (zI v7))] dX8_payoff_104 rfl (by omega) (by decide) rfl ?_
            refine j_goto hx 6 dX8_payoff_107 rfl ?_
            exact j_sub [1, 2, 3, 4, 5, 0] [(0, .ref a), (1, .int (zI x1)), (2, .int (zI x2)), (3, .int (zI x3)), (4, .int (zI v7)), (5, .int (zI (v2 + 1)))] rfl (ih_c6_1 v7 (v2 + 1) (by omega) (by omega) (by omega))
          refine j_icmp_ge hx 56 dX8_payoff_36 rfl (by omega) (by omega) (fun h8 => ?_) (fun h8 => ?_)
          · skip
            refine j_iload_n hx 2 dX8_payoff_56 rfl ?_
            refine j_iload hx 5 dX8_payoff_57 rfl ?_
            have c67_6 : JJ X E 6 G s0 0 0 [(0, .ref a), (1, .int (zI x1)), (2, .int (zI x2)), (3, .int (zI x3)), (4, .int (zI v1)), (5, .int (zI v2))] 67 [] := by
              refine j_iload hx 4 dX8_payoff_67 rfl ?_
              refine j_bipush hx dX8_payoff_69 rfl ?_
              refine j_aload_n hx 0 dX8_payoff_71 rfl ?_
              refine g9_1 hx hG ha kf_RX8_15 dX8_payoff_72 ?_
              refine j_iload hx 5 dX8_payoff_75 rfl ?_
              have f9 := zaI (j := (v2).toNat) hS0 (zr (k := 1) (t2 := 43) hG ha rfl) rfl (zlen hG (zr (k := 1) (t2 := 43) hG ha rfl) (n := 12) rfl rfl) (show 0 ≤ v2 by omega) (by omega) rfl
              refine j_iald hx hG (zr (k := 1) (t2 := 43) hG ha rfl) (by decide) rfl (zlen hG (zr (k := 1) (t2 := 43) hG ha rfl) (n := 12) rfl rfl) (by omega) (by omega) (j := (v2).toNat) rfl rfl dX8_payoff_77 ?_
              refine j_imul hx (r := 10 * (s0 (gP G a 1) (v2).toNat)) dX8_payoff_78 (by omega) ?_
              refine j_norm (fun v10 f11 f12 f13 => ?_)
              refine j_iadd hx (r := v1 + v10) dX8_payoff_79 rfl ?_
              refine j_norm (fun v14 f15 f16 f17 => ?_)
              refine j_istore hx [(4, .int (zI v14)), (0, .ref a), (1, .int (zI x1)), (2, .int (zI x2)), (3, .int (zI x3)), (5, .int (zI v2))] dX8_payoff_80 (by decide) rfl ?_
              refine j_goto hx 104 dX8_payoff_82 rfl ?_
              exact j_sub [1, 2, 3, 4, 0, 5] [(0, .ref a), (1, .int (zI x1)), (2, .int (zI x2)), (3, .int (zI x3)), (4, .int (zI v14)), (5, .int (zI v2))] rfl (c104_4 v14 (by omega))
            refine j_icmp_lt hx 67 dX8_payoff_59 rfl (by omega) (by omega) (fun h18 => ?_) (fun h18 => ?_)
            · skip
              exact j_sub [0, 1, 2, 3, 4, 5] [(0, .ref a), (1, .int (zI x1)), (2, .int (zI x2)), (3, .int (zI x3)), (4, .int (zI v1)), (5, .int (zI v2))] rfl (c67_6  )
            · skip
              refine j_iload_n hx 2 dX8_payoff_62 rfl ?_
              refine j_iload_n hx 1 dX8_payoff_63 rfl ?_
              refine j_icmp_le hx 85 dX8_payoff_64 rfl (by omega) (by omega) (fun h19 => ?_) (fun h19 => ?_)
              · skip
                refine j_iload_n hx 2 dX8_payoff_85 rfl ?_
                refine j_iload_n hx 1 dX8_payoff_86 rfl ?_
                refine j_icmp_ne hx 104 dX8_payoff_87 rfl (by omega) (by omega) (fun h20 => ?_) (fun h20 => ?_)
                · skip
                  exact j_sub [0, 1, 2, 3, 4, 5] [(0, .ref a), (1, .int (zI x1)), (2, .int (zI x2)), (3, .int (zI x3)), (4, .int (zI v1)), (5, .int (zI v2))] rfl (c104_4 v1 (by omega))
                · skip
                  refine j_iload hx 4 dX8_payoff_90 rfl ?_
                  refine j_iconst hx dX8_payoff_92 ?_
                  refine j_aload_n hx 0 dX8_payoff_93 rfl ?_
                  refine g9_1 hx hG ha kf_RX8_15 dX8_payoff_94 ?_
                  refine j_iload hx 5 dX8_payoff_97 rfl ?_
                  have f21 := zaI (j := (v2).toNat) hS0 (zr (k := 1) (t2 := 43) hG ha rfl) rfl (zlen hG (zr (k := 1) (t2 := 43) hG ha rfl) (n := 12) rfl rfl) (show 0 ≤ v2 by omega) (by omega) rfl
                  refine j_iald hx hG (zr (k := 1) (t2 := 43) hG ha rfl) (by decide) rfl (zlen hG (zr (k := 1) (t2 := 43) hG ha rfl) (n := 12) rfl rfl) (by omega) (by omega) (j := (v2).toNat) rfl rfl dX8_payoff_99 ?_
                  refine j_imul hx (r := 5 * (s0 (gP G a 1) (v2).toNat)) dX8_payoff_100 (by omega) ?_
                  refine j_norm (fun v22 f23 f24 f25 => ?_)
                  refine j_iadd hx (r := v1 + v22) dX8_payoff_101 rfl ?_
                  refine j_norm (fun v26 f27 f28 f29 => ?_)
                  refine j_istore hx [(4, .int (zI v26)), (0, .ref a), (1, .int (zI x1)), (2, .int (zI x2)), (3, .int (zI x3)), (5, .int (zI v2))] dX8_payoff_102 (by decide) rfl ?_
                  exact j_sub [1, 2, 3, 4, 0, 5] [(0, .ref a), (1, .int (zI x1)), (2, .int (zI x2)), (3, .int (zI x3)), (4, .int (zI v26)), (5, .int (zI v2))] rfl (c104_4 v26 (by omega))
              · skip
                exact j_sub [0, 1, 2, 3, 4, 5] [(0, .ref a), (1, .int (zI x1)), (2, .int (zI x2)), (3, .int (zI x3)), (4, .int (zI v1)), (5, .int (zI v2))] rfl (c67_6  )
          · skip
            refine j_iload hx 4 dX8_payoff_39 rfl ?_
            refine j_iload_n hx 3 dX8_payoff_41 rfl ?_
            refine j_aload_n hx 0 dX8_payoff_42 rfl ?_
            refine g9_1 hx hG ha kf_RX8_15 dX8_payoff_43 ?_
            refine j_iload hx 5 dX8_payoff_46 rfl ?_
            have f30 := zaI (j := (v2).toNat) hS0 (zr (k := 1) (t2 := 43) hG ha rfl) rfl (zlen hG (zr (k := 1) (t2 := 43) hG ha rfl) (n := 12) rfl rfl) (show 0 ≤ v2 by omega) (by omega) rfl
            refine j_iald hx hG (zr (k := 1) (t2 := 43) hG ha rfl) (by decide) rfl (zlen hG (zr (k := 1) (t2 := 43) hG ha rfl) (n := 12) rfl rfl) (by omega) (by omega) (j := (v2).toNat) rfl rfl dX8_payoff_48 ?_
            refine j_imul hx (r := (x3 * ((s0 (gP G a 1) (v2).toNat)))) dX8_payoff_49 rfl ?_
            refine j_norm (fun v31 f32 f33 f34 => ?_)
            refine j_isub hx (r := v1 - v31) dX8_payoff_50 rfl ?_
            refine j_norm (fun v35 f36 f37 f38 => ?_)
            refine j_istore hx [(4, .int (zI v35)), (0, .ref a), (1, .int (zI x1)), (2, .int (zI x2)), (3, .int (zI x3)), (5, .int (zI v2))] dX8_payoff_51 (by decide) rfl ?_
            refine j_goto hx 104 dX8_payoff_53 rfl ?_
            exact j_sub [1, 2, 3, 4, 0, 5] [(0, .ref a), (1, .int (zI x1)), (2, .int (zI x2)), (3, .int (zI x3)), (4, .int (zI v35)), (5, .int (zI v2))] rfl (c104_4 v35 (by omega))
  exact j_sub [2, 3, 4, 5, 1, 0] [(0, .ref a), (1, .int (zI x1)), (2, .int (zI x2)), (3, .int (zI x3)), (4, .int (zI 0)), (5, .int (zI 0))] rfl (c6_1 (2147483648 * 4) 0 0 (by omega) (by omega) (by omega))

theorem lk_RX11_276 : LkV RX11 276 RX8 yX8_payoff cX8_payoff 6 (some .int) 3 := ⟨km_RX11_276, ki_yX8_payoff, ks_RX8_yX8_payoff, kn_RX8, kc_yX8_payoff, rfl, by decide +kernel, by decide +kernel, by decide +kernel⟩
set_option maxHeartbeats 4000000 in
set_option maxRecDepth 20000 in
theorem c_X11_moments {E : zE} {l : Launch} (hst : l.stackTraces = false) (a : Nat) (x1 : Int) (x2 : Int) (x3 : Int) : ConX E l yX11_moments cX11_moments 4 (some .int) { frames := 7, cells := 3, slots := 18, locals := 113 } (fun G s vs => vs = [.ref a, .int (zI x1), .int (zI x2), .int (zI x3)] ∧ zGK G ∧ zSK G s ∧ (gT G a = 12) ∧ ((-2147483648) ≤ x1 ∧ x1 ≤ 2147483647) ∧ ((-2147483648) ≤ x2 ∧ x2 ≤ 2147483647) ∧ ((-2147483648) ≤ x3 ∧ x3 ≤ 2147483647)) (fun G s _ => pI (fun r G2 s2 => G2 = G ∧ s2 = s ∧ ((-2147483648) ≤ r ∧ r ≤ 2147483647))) (fun G s _ Ex G2 s2 => G2 = G ∧ zSK G s2 ∧ zFr [12] G s s2 ∧ ((Ex = "java/lang/IllegalArgumentException" ∧ (True)))) := by
  refine ConX.mk hst (by decide) (fun G s vs h => by rw [h.1]; exact Nat.le_of_ble_eq_true rfl) ?_
  rintro X G s0 vs ⟨rfl, hG, hS0, ha, hx1, hx2, hx3⟩ rfl hx hq
  show JJ X E 4 G s0 0 0 [(0, .ref a), (1, .int (zI x1)), (2, .int (zI x2)), (3, .int (zI x3))] 0 []
  refine j_aload_n hx 0 dX11_moments_0 rfl ?_
  refine j_iload_n hx 1 dX11_moments_1 rfl ?_
  refine j_iconst hx dX11_moments_2 ?_
  refine j_aload_n hx 0 dX11_moments_3 rfl ?_
  refine g12_1 hx hG ha kf_RX11_19 dX11_moments_4 ?_
  have f1 := zf hS0 (zr (k := 1) (t2 := 9) hG ha rfl) (k := 5) rfl
  refine gN9_5 hx hG (zr (k := 1) (t2 := 9) hG ha rfl) kf_RX11_181 rfl dX11_moments_7 ?_
  refine j_callVX hx hq hG (c_X11_needRange hst a x1 0 ((s0 (gP G a 1) 5))) lk_RX11_98 ha (by decide) rfl rfl rfl rfl [.int (zI x1), .int (zI 0), .int (zI ((s0 (gP G a 1) 5)))] ⟨rfl, hG, hS0, ha, (by omega), (by omega), (by omega)⟩ rfl rfl ⟨by decide, by decide⟩ ⟨by decide, by decide⟩ (k2 := 1) (n2 := 6) rfl rfl (Nat.le_of_ble_eq_true rfl) ⟨by decide, by decide⟩ dX11_moments_10 (by rintro Ex9 G9 s9 ⟨rfl, hS9, hF9, e9, c9⟩; exact ⟨rfl, hS9, (zFr_t zFr_rf hF9 (by decide)), ⟨e9, by first | trivial | omega⟩⟩) (kVP (fun q3 => ?_))
  refine j_aload_n hx 0 dX11_moments_13 rfl ?_
  refine j_iload_n hx 2 dX11_moments_14 rfl ?_
  refine j_iconst hx dX11_moments_15 ?_
  refine j_aload_n hx 0 dX11_moments_16 rfl ?_
  refine g12_1 hx hG ha kf_RX11_19 dX11_moments_17 ?_
  refine gN9_5 hx hG (zr (k := 1) (t2 := 9) hG ha rfl) kf_RX11_181 rfl dX11_moments_20 ?_
  refine j_callVX hx hq hG (c_X11_needRange hst a x2 0 ((s0 (gP G a 1) 5))) lk_RX11_98 ha (by decide) rfl rfl rfl rfl [.int (zI x2), .int (zI 0), .int (zI ((s0 (gP G a 1) 5)))] ⟨rfl, hG, hS0, ha, (by omega), (by omega), (by omega)⟩ rfl rfl ⟨by decide, by decide⟩ ⟨by decide, by decide⟩ (k2 := 2) (n2 := 12) rfl rfl (Nat.le_of_ble_eq_true rfl) ⟨by decide, by decide⟩ dX11_moments_23 (by rintro Ex9 G9 s9 ⟨rfl, hS9, hF9, e9, c9⟩; exact ⟨rfl, hS9, (zFr_t zFr_rf hF9 (by decide)), ⟨e9, by first | trivial | omega⟩⟩) (kVP (fun q5 => ?_))
  refine j_aload_n hx 0 dX11_moments_26 rfl ?_
  refine j_iload_n hx 3 dX11_moments_27 rfl ?_
  refine j_iconst hx dX11_moments_28 ?_
  refine j_bipush hx dX11_moments_29 rfl ?_
  refine j_callVX hx hq hG (c_X11_needRange hst a x3 0 99) lk_RX11_98 ha (by decide) rfl rfl rfl rfl [.int (zI x3), .int (zI 0), .int (zI 99)] ⟨rfl, hG, hS0, ha, (by omega), (by omega), (by omega)⟩ rfl rfl ⟨by decide, by decide⟩ ⟨by decide, by decide⟩ (k2 := 3) (n2 := 18) rfl rfl (Nat.le_of_ble_eq_true rfl) ⟨by decide, by decide⟩ dX11_moments_31 (by rintro Ex9 G9 s9 ⟨rfl, hS9, hF9, e9, c9⟩; exact ⟨rfl, hS9, (zFr_t zFr_rf hF9 (by decide)), ⟨e9, by first | trivial | omega⟩⟩) (kVP (fun q7 => ?_))
  refine j_aload_n hx 0 dX11_moments_34 rfl ?_
  refine g12_1 hx hG ha kf_RX11_19 dX11_moments_35 ?_
  refine j_iload_n hx 1 dX11_moments_38 rfl ?_
  refine j_iload_n hx 2 dX11_moments_39 rfl ?_
  refine j_iload_n hx 3 dX11_moments_40 rfl ?_
  refine j_callV hx hG (c_X8_payoff hst (gP G a 1) x1 x2 x3) lk_RX11_276 (zr (k := 1) (t2 := 9) hG ha rfl) (by decide) rfl rfl rfl rfl [.int (zI x1), .int (zI x2), .int (zI x3)] ⟨rfl, hG, hS0, (zr (k := 1) (t2 := 9) hG ha rfl), (by omega), (by omega), (by omega)⟩ rfl rfl ⟨by decide, by decide⟩ ⟨by decide, by decide⟩ (k2 := 3) (n2 := 18) rfl rfl (Nat.le_of_ble_eq_true rfl) dX11_moments_41 (kIP (fun v8 q9 => ?_))
  exact j_iret hx hq.r rfl (by decide) (by decide) dX11_moments_44 ⟨v8, rfl, rfl, rfl, (by omega)⟩

theorem lk_RX8_151 : LkV RX8 151 RX8 yX8_payoff cX8_payoff 6 (some .int) 3 := ⟨km_RX8_151, ki_yX8_payoff, ks_RX8_yX8_payoff, kn_RX8, kc_yX8_payoff, rfl, by decide +kernel, by decide +kernel, by decide +kernel⟩
set_option maxHeartbeats 4000000 in
set_option maxRecDepth 20000 in
theorem c_X8_isBest {E : zE} {l : Launch} (hst : l.stackTraces = false) (a : Nat) (x1 : Int) (x2 : Int) (x3 : Int) : Con E l yX8_isBest cX8_isBest 6 (some .boolean) { frames := 1, cells := 0, slots := 0, locals := 25 } (fun G s vs => vs = [.ref a, .int (zI x1), .int (zI x2), .int (zI x3)] ∧ zGK G ∧ zSK G s ∧ (gT G a = 9) ∧ ((-2147483648) ≤ x1 ∧ x1 ≤ 2147483647) ∧ ((-2147483648) ≤ x2 ∧ x2 ≤ 2147483647) ∧ ((-2147483648) ≤ x3 ∧ x3 ≤ 2147483647)) (fun G s _ => pI (fun r G2 s2 => G2 = G ∧ s2 = s ∧ (0 ≤ r ∧ r ≤ 1))) := by
  refine Con.mk hst (by decide) (fun G s vs h => by rw [h.1]; exact Nat.le_of_ble_eq_true rfl) ?_
  rintro X G s0 vs ⟨rfl, hG, hS0, ha, hx1, hx2, hx3⟩ rfl hx hq
  show JJ X E 6 G s0 0 0 [(0, .ref a), (1, .int (zI x1)), (2, .int (zI x2)), (3, .int (zI x3))] 0 []
  refine j_aload_n hx 0 dX8_isBest_0 rfl ?_
  refine j_iload_n hx 1 dX8_isBest_1 rfl ?_
  refine j_iload_n hx 2 dX8_isBest_2 rfl ?_
  refine j_iload_n hx 3 dX8_isBest_3 rfl ?_
  refine j_callV hx hG (c_X8_payoff hst a x1 x2 x3) lk_RX8_151 ha (by decide) rfl rfl rfl rfl [.int (zI x1), .int (zI x2), .int (zI x3)] ⟨rfl, hG, hS0, ha, (by omega), (by omega), (by omega)⟩ rfl rfl ⟨by decide, by decide⟩ ⟨by decide, by decide⟩ (k2 := 0) (n2 := 0) rfl rfl (Nat.le_of_ble_eq_true rfl) dX8_isBest_4 (kIP (fun v1 q2 => ?_))
  refine j_istore hx [(4, .int (zI v1)), (0, .ref a), (1, .int (zI x1)), (2, .int (zI x2)), (3, .int (zI x3))] dX8_isBest_7 (by decide) rfl ?_
  refine j_iconst hx dX8_isBest_9 ?_
  refine j_istore hx [(5, .int (zI 0)), (4, .int (zI v1)), (0, .ref a), (1, .int (zI x1)), (2, .int (zI x2)), (3, .int (zI x3))] dX8_isBest_10 (by decide) rfl ?_
  have c12_1 : ∀ (m_c12_1 : Nat) (v3 : Int), 2147483648 - v3 < m_c12_1 → (0 ≤ v3 ∧ v3 ≤ 13) → JJ X E 6 G s0 0 0 [(0, .ref a), (2, .int (zI x2)), (3, .int (zI x3)), (4, .int (zI v1)), (5, .int (zI v3))] 12 [] := by
    intro m_c12_1
    induction m_c12_1 with
    | zero => intro v3 hm_c12_1 fA2; exfalso; omega
    | succ m_c12_1 ih_c12_1 => 
      intro v3 hm_c12_1 fA2
      refine j_iload hx 4 dX8_isBest_12 rfl ?_
      refine j_aload_n hx 0 dX8_isBest_14 rfl ?_
      have f4 := zf hS0 ha (k := 5) rfl
      refine g9_5 hx hG ha kf_RX8_40 rfl dX8_isBest_15 ?_
      refine j_icmp_gt hx 42 dX8_isBest_18 rfl (by omega) (by omega) (fun h5 => ?_) (fun h5 => ?_)
      · skip
        refine j_iconst hx dX8_isBest_42 ?_
        exact j_zret hx hq rfl (by decide) (by decide) dX8_isBest_43 (by omega) ⟨1, rfl, rfl, rfl, (by omega)⟩
      · skip
        refine j_aload_n hx 0 dX8_isBest_21 rfl ?_
        refine j_iload hx 4 dX8_isBest_22 rfl ?_
        refine j_iload_n hx 1 dX8_isBest_24 rfl ?_
        refine j_iload_n hx 2 dX8_isBest_25 rfl ?_
        refine j_callV hx hG (c_X8_payoff hst a v3 x2 x3) lk_RX8_151 ha (by decide) rfl rfl rfl rfl [.int (zI v3), .int (zI x2), .int (zI x3)] ⟨rfl, hG, hS0, ha, (by omega), (by omega), (by omega)⟩ rfl rfl ⟨by decide, by decide⟩ ⟨by decide, by decide⟩ (k2 := 0) (n2 := 0) rfl rfl (Nat.le_of_ble_eq_true rfl) dX8_isBest_26 (kIP (fun v6 q7 => ?_))
        refine j_iload hx 3 dX8_isBest_29 rfl ?_
        refine j_icmp_le hx 36 dX8_isBest_31 rfl (by omega) (by omega) (fun h8 => ?_) (fun h8 => ?_)
        · skip
          refine j_iinc hx 4 [(5, .int (zI (v3 + 1))), (0, .ref a), (2, .int (zI x2)), (3, .int (zI x3)), (4, .int (zI v1))] dX8_isBest_36 rfl (by omega) (by decide) rfl ?_
          refine j_goto hx 12 dX8_isBest_39 rfl ?_
          exact j_sub [1, 2, 3, 4, 0] [(0, .ref a), (2, .int (zI x2)), (3, .int (zI x3)), (4, .int (zI v1)), (5, .int (zI (v3 + 1)))] rfl (ih_c12_1 (v3 + 1) (by omega) (by omega))
        · skip
          refine j_iconst hx dX8_isBest_34 ?_
          exact j_zret hx hq rfl (by decide) (by decide) dX8_isBest_35 (by omega) ⟨0, rfl, rfl, rfl, (by omega)⟩
  exact j_sub [2, 4, 5, 1, 0] [(0, .ref a), (2, .int (zI x2)), (3, .int (zI x3)), (4, .int (zI v1)), (5, .int (zI 0))] rfl (c12_1 (2147483648 * 4) 0 (by omega) (by omega))

theorem lk_RX11_280 : LkV RX11 280 RX8 yX8_isBest cX8_isBest 6 (some .boolean) 3 := ⟨km_RX11_280, ki_yX8_isBest, ks_RX8_yX8_isBest, kn_RX8, kc_yX8_isBest, rfl, by decide +kernel, by decide +kernel, by decide +kernel⟩
set_option maxHeartbeats 4000000 in
set_option maxRecDepth 20000 in
theorem c_X11_rests {E : zE} {l : Launch} (hst : l.stackTraces = false) (a : Nat) (x1 : Int) (x2 : Int) : ConX E l yX11_rests cX11_rests 7 (some .int) { frames := 7, cells := 2, slots := 12, locals := 113 } (fun G s vs => vs = [.ref a, .int (zI x1), .int (zI x2)] ∧ zGK G ∧ zSK G s ∧ (gT G a = 12) ∧ ((-2147483648) ≤ x1 ∧ x1 ≤ 2147483647) ∧ ((-2147483648) ≤ x2 ∧ x2 ≤ 2147483647)) (fun G s _ => pI (fun r G2 s2 => G2 = G ∧ s2 = s ∧ ((-2147483648) ≤ r ∧ r ≤ 2147483647))) (fun G s _ Ex G2 s2 => G2 = G ∧ zSK G s2 ∧ zFr [12] G s s2 ∧ ((Ex = "java/lang/IllegalArgumentException" ∧ (True)))) := by
  refine ConX.mk hst (by decide) (fun G s vs h => by rw [h.1]; exact Nat.le_of_ble_eq_true rfl) ?_
  rintro X G s0 vs ⟨rfl, hG, hS0, ha, hx1, hx2⟩ rfl hx hq
  show JJ X E 7 G s0 0 0 [(0, .ref a), (1, .int (zI x1)), (2, .int (zI x2))] 0 []
  refine j_aload_n hx 0 dX11_rests_0 rfl ?_
  refine j_iload_n hx 1 dX11_rests_1 rfl ?_
  refine j_iconst hx dX11_rests_2 ?_
  refine j_bipush hx dX11_rests_3 rfl ?_
  refine j_callVX hx hq hG (c_X11_needRange hst a x1 0 99) lk_RX11_98 ha (by decide) rfl rfl rfl rfl [.int (zI x1), .int (zI 0), .int (zI 99)] ⟨rfl, hG, hS0, ha, (by omega), (by omega), (by omega)⟩ rfl rfl ⟨by decide, by decide⟩ ⟨by decide, by decide⟩ (k2 := 1) (n2 := 6) rfl rfl (Nat.le_of_ble_eq_true rfl) ⟨by decide, by decide⟩ dX11_rests_5 (by rintro Ex9 G9 s9 ⟨rfl, hS9, hF9, e9, c9⟩; exact ⟨rfl, hS9, (zFr_t zFr_rf hF9 (by decide)), ⟨e9, by first | trivial | omega⟩⟩) (kVP (fun q2 => ?_))
  refine j_aload_n hx 0 dX11_rests_8 rfl ?_
  refine j_iload_n hx 2 dX11_rests_9 rfl ?_
  refine j_iconst hx dX11_rests_10 ?_
  refine j_iconst hx dX11_rests_11 ?_
  refine j_callVX hx hq hG (c_X11_needRange hst a x2 0 1) lk_RX11_98 ha (by decide) rfl rfl rfl rfl [.int (zI x2), .int (zI 0), .int (zI 1)] ⟨rfl, hG, hS0, ha, (by omega), (by omega), (by omega)⟩ rfl rfl ⟨by decide, by decide⟩ ⟨by decide, by decide⟩ (k2 := 2) (n2 := 12) rfl rfl (Nat.le_of_ble_eq_true rfl) ⟨by decide, by decide⟩ dX11_rests_12 (by rintro Ex9 G9 s9 ⟨rfl, hS9, hF9, e9, c9⟩; exact ⟨rfl, hS9, (zFr_t zFr_rf hF9 (by decide)), ⟨e9, by first | trivial | omega⟩⟩) (kVP (fun q4 => ?_))
  refine j_iconst hx dX11_rests_15 ?_
  refine j_istore_n hx [(3, .int (zI 0)), (0, .ref a), (1, .int (zI x1)), (2, .int (zI x2))] dX11_rests_16 (by decide) rfl ?_
  refine j_iconst hx dX11_rests_17 ?_
  refine j_istore hx [(4, .int (zI (-1))), (3, .int (zI 0)), (0, .ref a), (1, .int (zI x1)), (2, .int (zI x2))] dX11_rests_18 (by decide) rfl ?_
  refine j_iconst hx dX11_rests_20 ?_
  refine j_istore hx [(5, .int (zI 0)), (4, .int (zI (-1))), (3, .int (zI 0)), (0, .ref a), (1, .int (zI x1)), (2, .int (zI x2))] dX11_rests_21 (by decide) rfl ?_
  have c23_1 : ∀ (m_c23_1 : Nat) (v5 : Int) (v6 : Int) (v7 : Int), 2147483648 - v7 < m_c23_1 → ((-2147483648) ≤ v5 ∧ v5 ≤ 2147483647) → ((-1) ≤ v6 ∧ v6 ≤ 3000) → (0 ≤ v7 ∧ v7 ≤ 13) → JJ X E 7 G s0 2 12 [(0, .ref a), (1, .int (zI x1)), (2, .int (zI x2)), (3, .int (zI v5)), (4, .int (zI v6)), (5, .int (zI v7))] 23 [] := by
    intro m_c23_1
    induction m_c23_1 with
    | zero => intro v5 v6 v7 hm_c23_1 fA2 fA3 fA4; exfalso; omega
    | succ m_c23_1 ih_c23_1 => 
      intro v5 v6 v7 hm_c23_1 fA2 fA3 fA4
      refine j_iload hx 5 dX11_rests_23 rfl ?_
      refine j_aload_n hx 0 dX11_rests_25 rfl ?_
      refine g12_1 hx hG ha kf_RX11_19 dX11_rests_26 ?_
      have f8 := zf hS0 (zr (k := 1) (t2 := 9) hG ha rfl) (k := 5) rfl
      refine gN9_5 hx hG (zr (k := 1) (t2 := 9) hG ha rfl) kf_RX11_181 rfl dX11_rests_29 ?_
      refine j_icmp_gt hx 114 dX11_rests_32 rfl (by omega) (by omega) (fun h9 => ?_) (fun h9 => ?_)
      · skip
        refine j_iload_n hx 2 dX11_rests_114 rfl ?_
        refine j_if_ne hx 122 dX11_rests_115 rfl (by omega) (fun h10 => ?_) (fun h10 => ?_)
        · skip
          refine j_iload hx 4 dX11_rests_122 rfl ?_
          exact j_iret hx hq.r rfl (by decide) (by decide) dX11_rests_124 ⟨v6, rfl, rfl, rfl, (by omega)⟩
        · skip
          refine j_iload_n hx 3 dX11_rests_118 rfl ?_
          refine j_goto hx 124 dX11_rests_119 rfl ?_
          exact j_iret hx hq.r rfl (by decide) (by decide) dX11_rests_124 ⟨v5, rfl, rfl, rfl, (by omega)⟩
      · skip
        refine j_iconst hx dX11_rests_35 ?_
        refine j_istore hx [(6, .int (zI 0)), (0, .ref a), (1, .int (zI x1)), (2, .int (zI x2)), (3, .int (zI v5)), (4, .int (zI v6)), (5, .int (zI v7))] dX11_rests_36 (by decide) rfl ?_
        have c38_5 : ∀ (m_c38_5 : Nat) (v11 : Int) (v12 : Int) (v13 : Int), 2147483648 - v13 < m_c38_5 → ((-2147483648) ≤ v11 ∧ v11 ≤ 2147483647) → ((-1) ≤ v12 ∧ v12 ≤ 3000) → (0 ≤ v13 ∧ v13 ≤ 13) → JJ X E 7 G s0 2 12 [(0, .ref a), (1, .int (zI x1)), (2, .int (zI x2)), (3, .int (zI v11)), (4, .int (zI v12)), (5, .int (zI v7)), (6, .int (zI v13))] 38 [] := by
          intro m_c38_5
          induction m_c38_5 with
          | zero => intro v11 v12 v13 hm_c38_5 fA6 fA7 fA8; exfalso; omega
          | succ m_c38_5 ih_c38_5 => 
            intro v11 v12 v13 hm_c38_5 fA6 fA7 fA8
            refine j_iload hx 6 dX11_rests_38 rfl ?_
            refine j_aload_n hx 0 dX11_rests_40 rfl ?_
            refine g12_1 hx hG ha kf_RX11_19 dX11_rests_41 ?_
            refine gN9_5 hx hG (zr (k := 1) (t2 := 9) hG ha rfl) kf_RX11_181 rfl dX11_rests_44 ?_
            refine j_icmp_gt hx 108 dX11_rests_47 rfl (by omega) (by omega) (fun h14 => ?_) (fun h14 => ?_)
            · skip
              refine j_iinc hx 5 [(5, .int (zI (v7 + 1))), (0, .ref a), (1, .int (zI x1)), (2, .int (zI x2)), (3, .int (zI v11)), (4, .int (zI v12)), (6, .int (zI v13))] dX11_rests_108 rfl (by omega) (by decide) rfl ?_
              refine j_goto hx 23 dX11_rests_111 rfl ?_
              exact j_sub [1, 2, 3, 4, 5, 0] [(0, .ref a), (1, .int (zI x1)), (2, .int (zI x2)), (3, .int (zI v11)), (4, .int (zI v12)), (5, .int (zI (v7 + 1)))] rfl (ih_c23_1 v11 v12 (v7 + 1) (by omega) (by omega) (by omega) (by omega))
            · skip
              refine j_aload_n hx 0 dX11_rests_50 rfl ?_
              refine g12_1 hx hG ha kf_RX11_19 dX11_rests_51 ?_
              refine j_iload hx 5 dX11_rests_54 rfl ?_
              refine j_iload hx 6 dX11_rests_56 rfl ?_
              refine j_iload_n hx 1 dX11_rests_58 rfl ?_
              refine j_callV hx hG (c_X8_isBest hst (gP G a 1) v7 v13 x1) lk_RX11_280 (zr (k := 1) (t2 := 9) hG ha rfl) (by decide) rfl rfl rfl rfl [.int (zI v7), .int (zI v13), .int (zI x1)] ⟨rfl, hG, hS0, (zr (k := 1) (t2 := 9) hG ha rfl), (by omega), (by omega), (by omega)⟩ rfl rfl ⟨by decide, by decide⟩ ⟨by decide, by decide⟩ (k2 := 2) (n2 := 12) rfl rfl (Nat.le_of_ble_eq_true rfl) dX11_rests_59 (kIP (fun v15 q16 => ?_))
              have c102_9 : ∀ (v17 : Int) (v18 : Int), ((-2147483648) ≤ v17 ∧ v17 ≤ 2147483647) → ((-1) ≤ v18 ∧ v18 ≤ 3000) → JJ X E 7 G s0 2 12 [(0, .ref a), (1, .int (zI x1)), (2, .int (zI x2)), (3, .int (zI v17)), (4, .int (zI v18)), (5, .int (zI v7)), (6, .int (zI v13))] 102 [] := by
                intro v17 v18 fA10 fA11
                refine j_iinc hx 6 [(6, .int (zI (v13 + 1))), (0, .ref a), (1, .int (zI x1)), (2, .int (zI x2)), (3, .int (zI v17)), (4, .int (zI v18)), (5, .int (zI v7))] dX11_rests_102 rfl (by omega) (by decide) rfl ?_
                refine j_goto hx 38 dX11_rests_105 rfl ?_
                exact j_sub [1, 2, 3, 4, 5, 6, 0] [(0, .ref a), (1, .int (zI x1)), (2, .int (zI x2)), (3, .int (zI v17)), (4, .int (zI v18)), (5, .int (zI v7)), (6, .int (zI (v13 + 1)))] rfl (ih_c38_5 v17 v18 (v13 + 1) (by omega) (by omega) (by omega) (by omega))
              refine j_if_eq hx 102 dX11_rests_62 rfl (by omega) (fun h19 => ?_) (fun h19 => ?_)
              · skip
                exact j_sub [0, 1, 2, 3, 4, 5, 6] [(0, .ref a), (1, .int (zI x1)), (2, .int (zI x2)), (3, .int (zI v11)), (4, .int (zI v12)), (5, .int (zI v7)), (6, .int (zI v13))] rfl (c102_9 v11 v12 (by omega) (by omega))
              · skip
                refine j_aload_n hx 0 dX11_rests_65 rfl ?_
                refine g12_1 hx hG ha kf_RX11_19 dX11_rests_66 ?_
                refine j_iload hx 6 dX11_rests_69 rfl ?_
                refine j_iload hx 5 dX11_rests_71 rfl ?_
                refine j_iload_n hx 1 dX11_rests_73 rfl ?_
                refine j_callV hx hG (c_X8_isBest hst (gP G a 1) v13 v7 x1) lk_RX11_280 (zr (k := 1) (t2 := 9) hG ha rfl) (by decide) rfl rfl rfl rfl [.int (zI v13), .int (zI v7), .int (zI x1)] ⟨rfl, hG, hS0, (zr (k := 1) (t2 := 9) hG ha rfl), (by omega), (by omega), (by omega)⟩ rfl rfl ⟨by decide, by decide⟩ ⟨by decide, by decide⟩ (k2 := 2) (n2 := 12) rfl rfl (Nat.le_of_ble_eq_true rfl) dX11_rests_74 (kIP (fun v20 q21 => ?_))
                refine j_if_eq hx 102 dX11_rests_77 rfl (by omega) (fun h22 => ?_) (fun h22 => ?_)
                · skip
                  exact j_sub [0, 1, 2, 3, 4, 5, 6] [(0, .ref a), (1, .int (zI x1)), (2, .int (zI x2)), (3, .int (zI v11)), (4, .int (zI v12)), (5, .int (zI v7)), (6, .int (zI v13))] rfl (c102_9 v11 v12 (by omega) (by omega))
                · skip
                  refine j_iload_n hx 3 dX11_rests_80 rfl ?_
                  have c97_12 : ∀ (v23 : Int), ((-1) ≤ v23 ∧ v23 ≤ 3000) → JJ X E 7 G s0 2 12 [(0, .ref a), (1, .int (zI x1)), (2, .int (zI x2)), (3, .int (zI v11)), (5, .int (zI v7)), (6, .int (zI v13))] 97 [.int (zI v23)] := by
                    intro v23 fA13
                    refine j_istore hx [(4, .int (zI v23)), (0, .ref a), (1, .int (zI x1)), (2, .int (zI x2)), (3, .int (zI v11)), (5, .int (zI v7)), (6, .int (zI v13))] dX11_rests_97 (by decide) rfl ?_
                    refine j_iincN hx 4 (fun v24 => [(3, .int (zI v24)), (4, .int (zI v23)), (0, .ref a), (1, .int (zI x1)), (2, .int (zI x2)), (5, .int (zI v7)), (6, .int (zI v13))]) dX11_rests_99 rfl (by decide) (fun _ => rfl) (fun v24 f25 f26 f27 => ?_)
                    exact j_sub [2, 3, 4, 0, 1, 5, 6] [(0, .ref a), (1, .int (zI x1)), (2, .int (zI x2)), (3, .int (zI v24)), (4, .int (zI v23)), (5, .int (zI v7)), (6, .int (zI v13))] rfl (c102_9 v24 v23 (by omega) (by omega))
                  refine j_if_ne hx 95 dX11_rests_81 rfl (by omega) (fun h28 => ?_) (fun h28 => ?_)
                  · skip
                    refine j_iload hx 4 dX11_rests_95 rfl ?_
                    exact j_sub [0, 1, 2, 3, 5, 6] [(0, .ref a), (1, .int (zI x1)), (2, .int (zI x2)), (3, .int (zI v11)), (5, .int (zI v7)), (6, .int (zI v13))] rfl (c97_12 v12 (by omega))
                  · skip
                    refine j_bipush hx dX11_rests_84 rfl ?_
                    refine j_iload hx 5 dX11_rests_86 rfl ?_
                    refine j_imul hx (r := 100 * v7) dX11_rests_88 rfl ?_
                    refine j_iload hx 6 dX11_rests_89 rfl ?_
                    refine j_iadd hx (r := 100 * v7 + v13) dX11_rests_91 (by omega) ?_
                    refine j_goto hx 97 dX11_rests_92 rfl ?_
                    exact j_sub [0, 1, 2, 3, 5, 6] [(0, .ref a), (1, .int (zI x1)), (2, .int (zI x2)), (3, .int (zI v11)), (5, .int (zI v7)), (6, .int (zI v13))] rfl (c97_12 (100 * v7 + v13) (by omega))
        exact j_sub [1, 2, 3, 4, 5, 6, 0] [(0, .ref a), (1, .int (zI x1)), (2, .int (zI x2)), (3, .int (zI v5)), (4, .int (zI v6)), (5, .int (zI v7)), (6, .int (zI 0))] rfl (c38_5 (2147483648 * 4) v5 v6 0 (by omega) (by omega) (by omega) (by omega))
  exact j_sub [3, 4, 5, 2, 1, 0] [(0, .ref a), (1, .int (zI x1)), (2, .int (zI x2)), (3, .int (zI 0)), (4, .int (zI (-1))), (5, .int (zI 0))] rfl (c23_1 (2147483648 * 4) 0 (-1) 0 (by omega) (by omega) (by omega) (by omega))

set_option maxHeartbeats 4000000 in
set_option maxRecDepth 20000 in
theorem c_X0_cardsOf {E : zE} {l : Launch} (hst : l.stackTraces = false) (a : Nat) (x1 : Int) : Con E l yX0_cardsOf cX0_cardsOf 2 (some .int) { frames := 1, cells := 0, slots := 0, locals := 21 } (fun G s vs => vs = [.ref a, .int (zI x1)] ∧ zGK G ∧ zSK G s ∧ (gT G a = 1) ∧ ((-2147483648) ≤ x1 ∧ x1 ≤ 2147483647)) (fun G s _ => pI (fun r G2 s2 => G2 = G ∧ s2 = s ∧ ((-2147483648) ≤ r ∧ r ≤ 2147483647))) := by
  refine Con.mk hst (by decide) (fun G s vs h => by rw [h.1]; exact Nat.le_of_ble_eq_true rfl) ?_
  rintro X G s0 vs ⟨rfl, hG, hS0, ha, hx1⟩ rfl hx hq
  show JJ X E 2 G s0 0 0 [(0, .ref a), (1, .int (zI x1))] 0 []
  refine j_aload_n hx 0 dX0_cardsOf_0 rfl ?_
  refine j_iload_n hx 1 dX0_cardsOf_1 rfl ?_
  refine j_callV hx hG (c_X0_rowOf hst a x1) lk_RX0_36 ha (by decide) rfl rfl rfl rfl [.int (zI x1)] ⟨rfl, hG, hS0, ha, (by omega)⟩ rfl rfl ⟨by decide, by decide⟩ ⟨by decide, by decide⟩ (k2 := 0) (n2 := 0) rfl rfl (Nat.le_of_ble_eq_true rfl) dX0_cardsOf_2 (kRP (fun r1 q2 => ?_))
  have f3 := zf hS0 q2 (k := 1) rfl
  refine gN7_1 hx hG q2 kf_RX0_43 rfl dX0_cardsOf_5 ?_
  refine j_aload_n hx 0 dX0_cardsOf_8 rfl ?_
  refine j_iload_n hx 1 dX0_cardsOf_9 rfl ?_
  refine j_callV hx hG (c_X0_heapOf hst a x1) lk_RX0_40 ha (by decide) rfl rfl rfl rfl [.int (zI x1)] ⟨rfl, hG, hS0, ha, (by omega)⟩ rfl rfl ⟨by decide, by decide⟩ ⟨by decide, by decide⟩ (k2 := 0) (n2 := 0) rfl rfl (Nat.le_of_ble_eq_true rfl) dX0_cardsOf_10 (kRP (fun r4 q5 => ?_))
  have f6 := zf hS0 q5 (k := 1) rfl
  refine gN7_1 hx hG q5 kf_RX0_43 rfl dX0_cardsOf_13 ?_
  refine j_iadd hx (r := (s0 r1 1) + (s0 r4 1)) dX0_cardsOf_16 (by omega) ?_
  exact j_iret hx hq rfl (by decide) (by decide) dX0_cardsOf_17 ⟨(s0 r1 1) + (s0 r4 1), rfl, rfl, rfl, (by omega)⟩

set_option maxHeartbeats 4000000 in
set_option maxRecDepth 20000 in
theorem c_X10_keepBetter {E : zE} {l : Launch} (hst : l.stackTraces = false) (a : Nat) (x1 : Int) (x2 : Int) : Con E l yX10_keepBetter cX10_keepBetter 3 none { frames := 0, cells := 0, slots := 0, locals := 0 } (fun G s vs => vs = [.ref a, .int (zI x1), .int (zI x2)] ∧ zGK G ∧ zSK G s ∧ (gT G a = 11) ∧ ((-2147483648) ≤ x1 ∧ x1 ≤ 2147483647) ∧ ((-2147483648) ≤ x2 ∧ x2 ≤ 2147483647)) (fun G s _ => pV (fun G2 s2 => G2 = G ∧ zSK G s2 ∧ zFr [11] G s s2 ∧ True)) := by
  refine Con.mk hst (by decide) (fun G s vs h => by rw [h.1]; exact Nat.le_of_ble_eq_true rfl) ?_
  rintro X G s0 vs ⟨rfl, hG, hS0, ha, hx1, hx2⟩ rfl hx hq
  show JJ X E 3 G s0 0 0 [(0, .ref a), (1, .int (zI x1)), (2, .int (zI x2))] 0 []
  refine j_iload_n hx 1 dX10_keepBetter_0 rfl ?_
  refine j_aload_n hx 0 dX10_keepBetter_1 rfl ?_
  have f1 := zf hS0 ha (k := 5) rfl
  refine g11_5 hx hG ha kf_RX10_48 rfl dX10_keepBetter_2 ?_
  refine j_icmp_gt hx 24 dX10_keepBetter_5 rfl (by omega) (by omega) (fun h2 => ?_) (fun h2 => ?_)
  · skip
    refine j_aload_n hx 0 dX10_keepBetter_24 rfl ?_
    refine j_iload_n hx 1 dX10_keepBetter_25 rfl ?_
    refine p11_5 hx hG ha kf_RX10_48 dX10_keepBetter_26 ?_
    obtain ⟨s1, e_s1⟩ : ∃ z, z = zU s0 a 5 x1 := ⟨_, rfl⟩
    rw [← e_s1]
    have hS_s1 : zSK G s1 := by rw [e_s1]; exact zSK_F hS0 ha rfl rfl rfl (by omega)
    refine j_aload_n hx 0 dX10_keepBetter_29 rfl ?_
    refine j_iload_n hx 2 dX10_keepBetter_30 rfl ?_
    refine p11_6 hx hG ha kf_RX10_51 dX10_keepBetter_31 ?_
    obtain ⟨s2, e_s2⟩ : ∃ z, z = zU s1 a 6 x2 := ⟨_, rfl⟩
    rw [← e_s2]
    have hS_s2 : zSK G s2 := by rw [e_s2]; exact zSK_F hS_s1 ha rfl rfl rfl (by omega)
    exact j_vret hx hq rfl (by decide) (by decide) dX10_keepBetter_34 ⟨rfl, rfl, hS_s2, (zFr_u (zFr_u zFr_rf e_s1 ha (by decide)) e_s2 ha (by decide)), trivial⟩
  · skip
    refine j_iload_n hx 1 dX10_keepBetter_8 rfl ?_
    refine j_aload_n hx 0 dX10_keepBetter_9 rfl ?_
    refine g11_5 hx hG ha kf_RX10_48 rfl dX10_keepBetter_10 ?_
    refine j_icmp_ne hx 34 dX10_keepBetter_13 rfl (by omega) (by omega) (fun h3 => ?_) (fun h3 => ?_)
    · skip
      exact j_vret hx hq rfl (by decide) (by decide) dX10_keepBetter_34 ⟨rfl, rfl, hS0, zFr_rf, trivial⟩
    · skip
      refine j_iload_n hx 2 dX10_keepBetter_16 rfl ?_
      refine j_aload_n hx 0 dX10_keepBetter_17 rfl ?_
      have f4 := zf hS0 ha (k := 6) rfl
      refine g11_6 hx hG ha kf_RX10_51 rfl dX10_keepBetter_18 ?_
      refine j_icmp_ge hx 34 dX10_keepBetter_21 rfl (by omega) (by omega) (fun h5 => ?_) (fun h5 => ?_)
      · skip
        exact j_vret hx hq rfl (by decide) (by decide) dX10_keepBetter_34 ⟨rfl, rfl, hS0, zFr_rf, trivial⟩
      · skip
        refine j_aload_n hx 0 dX10_keepBetter_24 rfl ?_
        refine j_iload_n hx 1 dX10_keepBetter_25 rfl ?_
        refine p11_5 hx hG ha kf_RX10_48 dX10_keepBetter_26 ?_
        obtain ⟨s3, e_s3⟩ : ∃ z, z = zU s0 a 5 x1 := ⟨_, rfl⟩
        rw [← e_s3]
        have hS_s3 : zSK G s3 := by rw [e_s3]; exact zSK_F hS0 ha rfl rfl rfl (by omega)
        refine j_aload_n hx 0 dX10_keepBetter_29 rfl ?_
        refine j_iload_n hx 2 dX10_keepBetter_30 rfl ?_
        refine p11_6 hx hG ha kf_RX10_51 dX10_keepBetter_31 ?_
        obtain ⟨s4, e_s4⟩ : ∃ z, z = zU s3 a 6 x2 := ⟨_, rfl⟩
        rw [← e_s4]
        have hS_s4 : zSK G s4 := by rw [e_s4]; exact zSK_F hS_s3 ha rfl rfl rfl (by omega)
        exact j_vret hx hq rfl (by decide) (by decide) dX10_keepBetter_34 ⟨rfl, rfl, hS_s4, (zFr_u (zFr_u zFr_rf e_s3 ha (by decide)) e_s4 ha (by decide)), trivial⟩

theorem lk_RX10_58 : LkV RX10 58 RX0 yX0_cardsOf cX0_cardsOf 2 (some .int) 1 := ⟨km_RX10_58, ki_yX0_cardsOf, ks_RX0_yX0_cardsOf, kn_RX0, kc_yX0_cardsOf, rfl, by decide +kernel, by decide +kernel, by decide +kernel⟩
theorem lk_RX10_62 : LkV RX10 62 RX10 yX10_keepBetter cX10_keepBetter 3 none 2 := ⟨km_RX10_62, ki_yX10_keepBetter, ks_RX10_yX10_keepBetter, kn_RX10, kc_yX10_keepBetter, rfl, by decide +kernel, by decide +kernel, by decide +kernel⟩
set_option maxHeartbeats 4000000 in
set_option maxRecDepth 20000 in
theorem c_X10_choose_12 {E : zE} {l : Launch} (hst : l.stackTraces = false) (a : Nat) (x1 : Int) (x2 : Int) (x3 : Int) : Con E l yX10_choose cX10_choose 8 none { frames := 2, cells := 0, slots := 0, locals := 42 } (fun G s vs => vs = [.ref a, .int (zI x1), .int (zI x2), .int (zI x3)] ∧ zGK G ∧ zSK G s ∧ (gT G a = 11) ∧ (12 ≤ x1 ∧ x1 ≤ 12) ∧ ((-2147483648) ≤ x2 ∧ x2 ≤ 2147483647) ∧ (0 ≤ x3 ∧ x3 ≤ 4)) (fun G s _ => pV (fun G2 s2 => G2 = G ∧ zSK G s2 ∧ zFr [11] G s s2 ∧ True)) := by
  refine Con.mk hst (by decide) (fun G s vs h => by rw [h.1]; exact Nat.le_of_ble_eq_true rfl) ?_
  rintro X G s0 vs ⟨rfl, hG, hS0, ha, hx1, hx2, hx3⟩ rfl hx hq
  obtain rfl : x1 = 12 := by omega
  show JJ X E 8 G s0 0 0 [(0, .ref a), (1, .int (zI 12)), (2, .int (zI x2)), (3, .int (zI x3))] 0 []
  refine j_aload_n hx 0 dX10_choose_0 rfl ?_
  refine j_iload_n hx 1 dX10_choose_1 rfl ?_
  refine j_callV hx hG (c_X10_boardAt hst a 12) lk_RX10_22 ha (by decide) rfl rfl rfl rfl [.int (zI 12)] ⟨rfl, hG, hS0, ha, (by omega)⟩ rfl rfl ⟨by decide, by decide⟩ ⟨by decide, by decide⟩ (k2 := 0) (n2 := 0) rfl rfl (Nat.le_of_ble_eq_true rfl) dX10_choose_2 (kNP (fun _ => ?_) (fun r1 q2 => ?_))
  · skip
    refine j_astoreN hx [(4, .null), (0, .ref a), (1, .int (zI 12)), (2, .int (zI x2)), (3, .int (zI x3))] dX10_choose_5 (by decide) rfl ?_
    refine j_aload_n hx 1 dX10_choose_7 rfl ?_
    refine j_iload_n hx 2 dX10_choose_8 rfl ?_
    refine j_iconst hx dX10_choose_9 ?_
    refine j_iadd hx (r := 13) dX10_choose_10 (by omega) ?_
    refine j_callV hx hG (c_X10_boardAt hst a 13) lk_RX10_22 ha (by decide) rfl rfl rfl rfl [.int (zI 13)] ⟨rfl, hG, hS0, ha, (by omega)⟩ rfl rfl ⟨by decide, by decide⟩ ⟨by decide, by decide⟩ (k2 := 0) (n2 := 0) rfl rfl (Nat.le_of_ble_eq_true rfl) dX10_choose_11 (kNP (fun _ => ?_) (fun r3 q4 => ?_))
    · skip
      refine j_astoreN hx [(5, .null), (4, .null), (0, .ref a), (1, .int (zI 12)), (2, .int (zI x2)), (3, .int (zI x3))] dX10_choose_14 (by decide) rfl ?_
      refine j_aloadN hx 1 dX10_choose_16 rfl ?_
      refine j_ifnonnullN hx dX10_choose_18 ?_
      exact j_vret hx hq rfl (by decide) (by decide) dX10_choose_21 ⟨rfl, rfl, hS0, zFr_rf, trivial⟩
    · exact absurd (show 13 ≤ 12 from q4.2) (by decide)
  · skip
    refine j_astore hx [(4, .ref r1), (0, .ref a), (1, .int (zI 12)), (2, .int (zI x2)), (3, .int (zI x3))] dX10_choose_5 (by decide) rfl ?_
    refine j_aload_n hx 1 dX10_choose_7 rfl ?_
    refine j_iload_n hx 2 dX10_choose_8 rfl ?_
    refine j_iconst hx dX10_choose_9 ?_
    refine j_iadd hx (r := 13) dX10_choose_10 (by omega) ?_
    refine j_callV hx hG (c_X10_boardAt hst a 13) lk_RX10_22 ha (by decide) rfl rfl rfl rfl [.int (zI 13)] ⟨rfl, hG, hS0, ha, (by omega)⟩ rfl rfl ⟨by decide, by decide⟩ ⟨by decide, by decide⟩ (k2 := 0) (n2 := 0) rfl rfl (Nat.le_of_ble_eq_true rfl) dX10_choose_11 (kNP (fun _ => ?_) (fun r5 q6 => ?_))
    · skip
      refine j_astoreN hx [(5, .null), (4, .ref r1), (0, .ref a), (1, .int (zI 12)), (2, .int (zI x2)), (3, .int (zI x3))] dX10_choose_14 (by decide) rfl ?_
      refine j_aload hx 1 dX10_choose_16 rfl ?_
      refine j_ifnonnull hx 22 dX10_choose_18 rfl ?_
      refine j_aloadN hx 0 dX10_choose_22 rfl ?_
      refine j_ifnullN hx 35 dX10_choose_24 rfl ?_
      refine j_aload_n hx 2 dX10_choose_35 rfl ?_
      refine j_aload hx 1 dX10_choose_36 rfl ?_
      refine j_aload_n hx 2 dX10_choose_38 rfl ?_
      have f7 := zf hS0 ha (k := 2) rfl
      refine g11_2 hx hG ha kf_RX10_41 rfl dX10_choose_39 ?_
      refine j_callV hx hG (c_X0_cardsOf hst r1 ((s0 a 2))) lk_RX10_58 q2.1 (by decide) rfl rfl rfl rfl [.int (zI ((s0 a 2)))] ⟨rfl, hG, hS0, q2.1, (by omega)⟩ rfl rfl ⟨by decide, by decide⟩ ⟨by decide, by decide⟩ (k2 := 0) (n2 := 0) rfl rfl (Nat.le_of_ble_eq_true rfl) dX10_choose_42 (kIP (fun v8 q9 => ?_))
      refine j_iload_n hx 4 dX10_choose_45 rfl ?_
      refine j_callV hx hG (c_X10_keepBetter hst a v8 x2) lk_RX10_62 ha (by decide) rfl rfl rfl rfl [.int (zI v8), .int (zI x2)] ⟨rfl, hG, hS0, ha, (by omega), (by omega)⟩ rfl rfl ⟨by decide, by decide⟩ ⟨by decide, by decide⟩ (k2 := 0) (n2 := 0) rfl rfl (Nat.le_of_ble_eq_true rfl) dX10_choose_46 (kVM (fun s1 hS_s1 hF_s1 q11 => ?_))
      exact j_vret hx hq rfl (by decide) (by decide) dX10_choose_49 ⟨rfl, rfl, hS_s1, (zFr_t zFr_rf hF_s1 (by decide)), trivial⟩
    · exact absurd (show 13 ≤ 12 from q6.2) (by decide)

theorem lk_RX10_66 : LkV RX10 66 RX0 yX0_following cX0_following 2 (some .int) 1 := ⟨km_RX10_66, ki_yX0_following, ks_RX0_yX0_following, kn_RX0, kc_yX0_following, rfl, by decide +kernel, by decide +kernel, by decide +kernel⟩
theorem lk_RX10_54 : LkV RX10 54 RX10 yX10_choose cX10_choose 8 none 3 := ⟨km_RX10_54, ki_yX10_choose, ks_RX10_yX10_choose, kn_RX10, kc_yX10_choose, rfl, by decide +kernel, by decide +kernel, by decide +kernel⟩
theorem lk_RX10_73 : LkV RX10 73 RX0 yX0_isOut cX0_isOut 2 (some .boolean) 1 := ⟨km_RX10_73, ki_yX0_isOut, ks_RX0_yX0_isOut, kn_RX0, kc_yX0_isOut, rfl, by decide +kernel, by decide +kernel, by decide +kernel⟩
theorem lk_RX10_69 : LkV RX10 69 RX0 yX0_win cX0_win 7 (some .int) 3 := ⟨km_RX10_69, ki_yX0_win, ks_RX0_yX0_win, kn_RX0, kc_yX0_win, rfl, by decide +kernel, by decide +kernel, by decide +kernel⟩
set_option maxHeartbeats 4000000 in
set_option maxRecDepth 20000 in
theorem c_X10_choose_11 {E : zE} {l : Launch} (hst : l.stackTraces = false) (a : Nat) (x1 : Int) (x2 : Int) (x3 : Int) : Con E l yX10_choose cX10_choose 8 none { frames := 4, cells := 0, slots := 0, locals := 86 } (fun G s vs => vs = [.ref a, .int (zI x1), .int (zI x2), .int (zI x3)] ∧ zGK G ∧ zSK G s ∧ (gT G a = 11) ∧ (11 ≤ x1 ∧ x1 ≤ 11) ∧ ((-2147483648) ≤ x2 ∧ x2 ≤ 2147483647) ∧ (0 ≤ x3 ∧ x3 ≤ 4)) (fun G s _ => pV (fun G2 s2 => G2 = G ∧ zSK G s2 ∧ zFr [1, 7, 11, 41] G s s2 ∧ True)) := by
  refine Con.mk hst (by decide) (fun G s vs h => by rw [h.1]; exact Nat.le_of_ble_eq_true rfl) ?_
  rintro X G s0 vs ⟨rfl, hG, hS0, ha, hx1, hx2, hx3⟩ rfl hx hq
  obtain rfl : x1 = 11 := by omega
  show JJ X E 8 G s0 0 0 [(0, .ref a), (1, .int (zI 11)), (2, .int (zI x2)), (3, .int (zI x3))] 0 []
  refine j_aload_n hx 0 dX10_choose_0 rfl ?_
  refine j_iload_n hx 1 dX10_choose_1 rfl ?_
  refine j_callV hx hG (c_X10_boardAt hst a 11) lk_RX10_22 ha (by decide) rfl rfl rfl rfl [.int (zI 11)] ⟨rfl, hG, hS0, ha, (by omega)⟩ rfl rfl ⟨by decide, by decide⟩ ⟨by decide, by decide⟩ (k2 := 0) (n2 := 0) rfl rfl (Nat.le_of_ble_eq_true rfl) dX10_choose_2 (kNP (fun _ => ?_) (fun r1 q2 => ?_))
  · skip
    refine j_astoreN hx [(4, .null), (0, .ref a), (1, .int (zI 11)), (2, .int (zI x2)), (3, .int (zI x3))] dX10_choose_5 (by decide) rfl ?_
    refine j_aload_n hx 1 dX10_choose_7 rfl ?_
    refine j_iload_n hx 2 dX10_choose_8 rfl ?_
    refine j_iconst hx dX10_choose_9 ?_
    refine j_iadd hx (r := 12) dX10_choose_10 (by omega) ?_
    refine j_callV hx hG (c_X10_boardAt hst a 12) lk_RX10_22 ha (by decide) rfl rfl rfl rfl [.int (zI 12)] ⟨rfl, hG, hS0, ha, (by omega)⟩ rfl rfl ⟨by decide, by decide⟩ ⟨by decide, by decide⟩ (k2 := 0) (n2 := 0) rfl rfl (Nat.le_of_ble_eq_true rfl) dX10_choose_11 (kNP (fun _ => ?_) (fun r3 q4 => ?_))
    · skip
      refine j_astoreN hx [(5, .null), (4, .null), (0, .ref a), (1, .int (zI 11)), (2, .int (zI x2)), (3, .int (zI x3))] dX10_choose_14 (by decide) rfl ?_
      refine j_aloadN hx 1 dX10_choose_16 rfl ?_
      refine j_ifnonnullN hx dX10_choose_18 ?_
      exact j_vret hx hq rfl (by decide) (by decide) dX10_choose_21 ⟨rfl, rfl, hS0, zFr_rf, trivial⟩
    · skip
      refine j_astore hx [(5, .ref r3), (4, .null), (0, .ref a), (1, .int (zI 11)), (2, .int (zI x2)), (3, .int (zI x3))] dX10_choose_14 (by decide) rfl ?_
      refine j_aloadN hx 1 dX10_choose_16 rfl ?_
      refine j_ifnonnullN hx dX10_choose_18 ?_
      exact j_vret hx hq rfl (by decide) (by decide) dX10_choose_21 ⟨rfl, rfl, hS0, zFr_rf, trivial⟩
  · skip
    refine j_astore hx [(4, .ref r1), (0, .ref a), (1, .int (zI 11)), (2, .int (zI x2)), (3, .int (zI x3))] dX10_choose_5 (by decide) rfl ?_
    refine j_aload_n hx 1 dX10_choose_7 rfl ?_
    refine j_iload_n hx 2 dX10_choose_8 rfl ?_
    refine j_iconst hx dX10_choose_9 ?_
    refine j_iadd hx (r := 12) dX10_choose_10 (by omega) ?_
    refine j_callV hx hG (c_X10_boardAt hst a 12) lk_RX10_22 ha (by decide) rfl rfl rfl rfl [.int (zI 12)] ⟨rfl, hG, hS0, ha, (by omega)⟩ rfl rfl ⟨by decide, by decide⟩ ⟨by decide, by decide⟩ (k2 := 0) (n2 := 0) rfl rfl (Nat.le_of_ble_eq_true rfl) dX10_choose_11 (kNP (fun _ => ?_) (fun r5 q6 => ?_))
    · skip
      refine j_astoreN hx [(5, .null), (4, .ref r1), (0, .ref a), (1, .int (zI 11)), (2, .int (zI x2)), (3, .int (zI x3))] dX10_choose_14 (by decide) rfl ?_
      refine j_aload hx 1 dX10_choose_16 rfl ?_
      refine j_ifnonnull hx 22 dX10_choose_18 rfl ?_
      refine j_aloadN hx 0 dX10_choose_22 rfl ?_
      have c35_1 : ∀ (s2 : zS), (zSK G s2) → (zFr [1, 7, 41] G s0 s2) → JJ X E 8 G s2 0 0 [(0, .ref a), (2, .int (zI x2)), (4, .ref r1)] 35 [] := by
        intro s2 hS_s2 hF_s2
        refine j_aload_n hx 0 dX10_choose_35 rfl ?_
        refine j_aload hx 2 dX10_choose_36 rfl ?_
        refine j_aload_n hx 0 dX10_choose_38 rfl ?_
        have f7 := zf hS0 ha (k := 2) rfl
        refine g11_2 hx hG ha kf_RX10_41 (v := (s0 a 2)) (by rw [(zFr_g hF_s2 ha (by decide))]) dX10_choose_39 ?_
        refine j_callV hx hG (c_X0_cardsOf hst r1 ((s0 a 2))) lk_RX10_58 q2.1 (by decide) rfl rfl rfl rfl [.int (zI ((s0 a 2)))] ⟨rfl, hG, hS_s2, q2.1, (by omega)⟩ rfl rfl ⟨by decide, by decide⟩ ⟨by decide, by decide⟩ (k2 := 0) (n2 := 0) rfl rfl (Nat.le_of_ble_eq_true rfl) dX10_choose_42 (kIP (fun v8 q9 => ?_))
        refine j_iload_n hx 1 dX10_choose_45 rfl ?_
        refine j_callV hx hG (c_X10_keepBetter hst a v8 x2) lk_RX10_62 ha (by decide) rfl rfl rfl rfl [.int (zI v8), .int (zI x2)] ⟨rfl, hG, hS_s2, ha, (by omega), (by omega)⟩ rfl rfl ⟨by decide, by decide⟩ ⟨by decide, by decide⟩ (k2 := 0) (n2 := 0) rfl rfl (Nat.le_of_ble_eq_true rfl) dX10_choose_46 (kVM (fun s5 hS_s5 hF_s5 q11 => ?_))
        exact j_vret hx hq rfl (by decide) (by decide) dX10_choose_49 ⟨rfl, rfl, hS_s5, (zFr_t (zFr_t zFr_rf hF_s2 (by decide)) hF_s5 (by decide)), trivial⟩
      refine j_ifnullN hx 35 dX10_choose_24 rfl ?_
      exact j_sub [2, 4, 1] [(0, .ref a), (2, .int (zI x2)), (4, .ref r1)] rfl (c35_1 s0 hS0 zFr_rf)
    · skip
      refine j_astore hx [(5, .ref r5), (4, .ref r1), (0, .ref a), (1, .int (zI 11)), (2, .int (zI x2)), (3, .int (zI x3))] dX10_choose_14 (by decide) rfl ?_
      refine j_aload hx 1 dX10_choose_16 rfl ?_
      refine j_ifnonnull hx 22 dX10_choose_18 rfl ?_
      refine j_aload hx 0 dX10_choose_22 rfl ?_
      have c35_6 : ∀ (s7 : zS), (zSK G s7) → (zFr [1, 7, 41] G s0 s7) → JJ X E 8 G s7 0 0 [(0, .ref a), (2, .int (zI x2)), (4, .ref r1)] 35 [] := by
        intro s7 hS_s7 hF_s7
        refine j_aload_n hx 0 dX10_choose_35 rfl ?_
        refine j_aload hx 2 dX10_choose_36 rfl ?_
        refine j_aload_n hx 0 dX10_choose_38 rfl ?_
        have f12 := zf hS0 ha (k := 2) rfl
        refine g11_2 hx hG ha kf_RX10_41 (v := (s0 a 2)) (by rw [(zFr_g hF_s7 ha (by decide))]) dX10_choose_39 ?_
        refine j_callV hx hG (c_X0_cardsOf hst r1 ((s0 a 2))) lk_RX10_58 q2.1 (by decide) rfl rfl rfl rfl [.int (zI ((s0 a 2)))] ⟨rfl, hG, hS_s7, q2.1, (by omega)⟩ rfl rfl ⟨by decide, by decide⟩ ⟨by decide, by decide⟩ (k2 := 0) (n2 := 0) rfl rfl (Nat.le_of_ble_eq_true rfl) dX10_choose_42 (kIP (fun v13 q14 => ?_))
        refine j_iload_n hx 1 dX10_choose_45 rfl ?_
        refine j_callV hx hG (c_X10_keepBetter hst a v13 x2) lk_RX10_62 ha (by decide) rfl rfl rfl rfl [.int (zI v13), .int (zI x2)] ⟨rfl, hG, hS_s7, ha, (by omega), (by omega)⟩ rfl rfl ⟨by decide, by decide⟩ ⟨by decide, by decide⟩ (k2 := 0) (n2 := 0) rfl rfl (Nat.le_of_ble_eq_true rfl) dX10_choose_46 (kVM (fun s10 hS_s10 hF_s10 q16 => ?_))
        exact j_vret hx hq rfl (by decide) (by decide) dX10_choose_49 ⟨rfl, rfl, hS_s10, (zFr_t (zFr_t zFr_rf hF_s7 (by decide)) hF_s10 (by decide)), trivial⟩
      refine j_ifnull hx dX10_choose_24 ?_
      refine j_aload hx 1 dX10_choose_27 rfl ?_
      refine j_callV hx hG (c_X0_step hst r1) lk_RX10_33 q2.1 (by decide) rfl rfl rfl rfl [] ⟨rfl, hG, hS0, q2.1⟩ rfl rfl ⟨by decide, by decide⟩ ⟨by decide, by decide⟩ (k2 := 0) (n2 := 0) rfl rfl (Nat.le_of_ble_eq_true rfl) dX10_choose_29 (kIM (fun v17 s11 hS_s11 hF_s11 q18 => ?_))
      refine j_if_ne hx 50 dX10_choose_32 rfl (by omega) (fun h19 => ?_) (fun h19 => ?_)
      · skip
        refine j_aload hx 1 dX10_choose_50 rfl ?_
        refine j_callV hx hG (c_X0_likeTops hst r1) lk_RX10_37 q2.1 (by decide) rfl rfl rfl rfl [] ⟨rfl, hG, hS_s11, q2.1⟩ rfl rfl ⟨by decide, by decide⟩ ⟨by decide, by decide⟩ (k2 := 0) (n2 := 0) rfl rfl (Nat.le_of_ble_eq_true rfl) dX10_choose_52 (kIP (fun v20 q21 => ?_))
        refine j_istore hx [(6, .int (zI v20)), (5, .ref r5), (4, .ref r1), (0, .ref a), (1, .int (zI 11)), (2, .int (zI x2)), (3, .int (zI x3))] dX10_choose_55 (by decide) rfl ?_
        refine j_aload hx 2 dX10_choose_57 rfl ?_
        refine j_aload_n hx 3 dX10_choose_59 rfl ?_
        have f22 := zf hS0 ha (k := 2) rfl
        refine g11_2 hx hG ha kf_RX10_41 (v := (s0 a 2)) (by rw [(zFr_g hF_s11 ha (by decide))]) dX10_choose_60 ?_
        refine j_callV hx hG (c_X0_following hst r1 ((s0 a 2))) lk_RX10_66 q2.1 (by decide) rfl rfl rfl rfl [.int (zI ((s0 a 2)))] ⟨rfl, hG, hS_s11, q2.1, (by omega)⟩ rfl rfl ⟨by decide, by decide⟩ ⟨by decide, by decide⟩ (k2 := 0) (n2 := 0) rfl rfl (Nat.le_of_ble_eq_true rfl) dX10_choose_63 (kIP (fun v23 q24 => ?_))
        refine j_istore hx [(7, .int (zI v23)), (6, .int (zI v20)), (5, .ref r5), (4, .ref r1), (0, .ref a), (1, .int (zI 11)), (2, .int (zI x2)), (3, .int (zI x3))] dX10_choose_66 (by decide) rfl ?_
        refine j_aload hx 2 dX10_choose_68 rfl ?_
        refine j_aload hx 3 dX10_choose_70 rfl ?_
        refine j_callV hx hG (c_X0_become hst r5 r1) lk_RX10_26 q6.1 (by decide) rfl rfl rfl rfl [.ref r1] ⟨rfl, hG, hS_s11, q6.1, q2.1⟩ rfl rfl ⟨by decide, by decide⟩ ⟨by decide, by decide⟩ (k2 := 0) (n2 := 0) rfl rfl (Nat.le_of_ble_eq_true rfl) dX10_choose_72 (kVM (fun s12 hS_s12 hF_s12 q26 => ?_))
        refine j_iload hx 1 dX10_choose_75 rfl ?_
        refine j_iconst hx dX10_choose_77 ?_
        have c101_13 : ∀ (s14 : zS), (zSK G s14) → (zFr [7, 41] G s12 s14) → JJ X E 8 G s14 0 0 [(0, .ref a), (1, .int (zI 11)), (2, .int (zI x2)), (3, .int (zI x3)), (4, .ref r1), (5, .ref r5), (6, .int (zI v20))] 101 [] := by
          intro s14 hS_s14 hF_s14
          refine j_aload_n hx 0 dX10_choose_101 rfl ?_
          refine j_iload_n hx 1 dX10_choose_102 rfl ?_
          refine j_iconst hx dX10_choose_103 ?_
          refine j_iadd hx (r := 12) dX10_choose_104 (by omega) ?_
          refine j_iload_n hx 2 dX10_choose_105 rfl ?_
          refine j_iload_n hx 3 dX10_choose_106 rfl ?_
          refine j_callV hx hG (c_X10_choose_12 hst a 12 x2 x3) lk_RX10_54 ha (by decide) rfl rfl rfl rfl [.int (zI 12), .int (zI x2), .int (zI x3)] ⟨rfl, hG, hS_s14, ha, (by omega), (by omega), (by omega)⟩ rfl rfl ⟨by decide, by decide⟩ ⟨by decide, by decide⟩ (k2 := 0) (n2 := 0) rfl rfl (Nat.le_of_ble_eq_true rfl) dX10_choose_107 (kVM (fun s17 hS_s17 hF_s17 q28 => ?_))
          refine j_iload hx 6 dX10_choose_110 rfl ?_
          refine j_iconst hx dX10_choose_112 ?_
          refine j_icmp_eq hx 170 dX10_choose_113 rfl (by omega) ⟨by decide, by decide⟩ (fun h29 => ?_) (fun h29 => ?_)
          · skip
            exact j_vret hx hq rfl (by decide) (by decide) dX10_choose_170 ⟨rfl, rfl, hS_s17, (zFr_t (zFr_t (zFr_t (zFr_t zFr_rf hF_s11 (by decide)) hF_s12 (by decide)) hF_s14 (by decide)) hF_s17 (by decide)), trivial⟩
          · skip
            refine j_iload_n hx 3 dX10_choose_116 rfl ?_
            refine j_if_le hx 170 dX10_choose_117 rfl (by omega) (fun h30 => ?_) (fun h30 => ?_)
            · skip
              exact j_vret hx hq rfl (by decide) (by decide) dX10_choose_170 ⟨rfl, rfl, hS_s17, (zFr_t (zFr_t (zFr_t (zFr_t zFr_rf hF_s11 (by decide)) hF_s12 (by decide)) hF_s14 (by decide)) hF_s17 (by decide)), trivial⟩
            · skip
              refine j_aload hx 4 dX10_choose_120 rfl ?_
              refine j_aload_n hx 0 dX10_choose_122 rfl ?_
              have f31 := zf hS_s17 ha (k := 2) rfl
              refine g11_2 hx hG ha kf_RX10_41 rfl dX10_choose_123 ?_
              refine j_callV hx hG (c_X0_isOut hst r1 ((s17 a 2))) lk_RX10_73 q2.1 (by decide) rfl rfl rfl rfl [.int (zI ((s17 a 2)))] ⟨rfl, hG, hS_s17, q2.1, (by omega)⟩ rfl rfl ⟨by decide, by decide⟩ ⟨by decide, by decide⟩ (k2 := 0) (n2 := 0) rfl rfl (Nat.le_of_ble_eq_true rfl) dX10_choose_126 (kIP (fun v32 q33 => ?_))
              refine j_if_ne hx 170 dX10_choose_129 rfl (by omega) (fun h34 => ?_) (fun h34 => ?_)
              · skip
                exact j_vret hx hq rfl (by decide) (by decide) dX10_choose_170 ⟨rfl, rfl, hS_s17, (zFr_t (zFr_t (zFr_t (zFr_t zFr_rf hF_s11 (by decide)) hF_s12 (by decide)) hF_s14 (by decide)) hF_s17 (by decide)), trivial⟩
              · skip
                refine j_aload hx 5 dX10_choose_132 rfl ?_
                refine j_aload hx 4 dX10_choose_134 rfl ?_
                refine j_callV hx hG (c_X0_become hst r5 r1) lk_RX10_26 q6.1 (by decide) rfl rfl rfl rfl [.ref r1] ⟨rfl, hG, hS_s17, q6.1, q2.1⟩ rfl rfl ⟨by decide, by decide⟩ ⟨by decide, by decide⟩ (k2 := 0) (n2 := 0) rfl rfl (Nat.le_of_ble_eq_true rfl) dX10_choose_136 (kVM (fun s18 hS_s18 hF_s18 q36 => ?_))
                refine j_aload hx 5 dX10_choose_139 rfl ?_
                refine j_aload_n hx 0 dX10_choose_141 rfl ?_
                refine g11_2 hx hG ha kf_RX10_41 (v := (s17 a 2)) (by rw [(zFr_g hF_s18 ha (by decide))]) dX10_choose_142 ?_
                refine j_iload hx 6 dX10_choose_145 rfl ?_
                refine j_aload_n hx 0 dX10_choose_147 rfl ?_
                have f37 := zf hS_s17 ha (k := 3) rfl
                refine g11_3 hx hG ha kf_RX10_45 (v := (s17 a 3)) (by rw [(zFr_g hF_s18 ha (by decide))]) dX10_choose_148 ?_
                refine j_callV hx hG (c_X0_win hst r5 ((s17 a 2)) v20 ((s17 a 3))) lk_RX10_69 q6.1 (by decide) rfl rfl rfl rfl [.int (zI ((s17 a 2))), .int (zI v20), .int (zI ((s17 a 3)))] ⟨rfl, hG, hS_s18, q6.1, (by omega), (by omega), (by omega)⟩ rfl rfl ⟨by decide, by decide⟩ ⟨by decide, by decide⟩ (k2 := 0) (n2 := 0) rfl rfl (Nat.le_of_ble_eq_true rfl) dX10_choose_151 (kIM (fun v38 s19 hS_s19 hF_s19 q39 => ?_))
                refine j_pop hx dX10_choose_154 rfl ?_
                refine j_aload_n hx 0 dX10_choose_155 rfl ?_
                refine j_iload_n hx 1 dX10_choose_156 rfl ?_
                refine j_iconst hx dX10_choose_157 ?_
                refine j_iadd hx (r := 12) dX10_choose_158 (by omega) ?_
                refine j_iload_n hx 2 dX10_choose_159 rfl ?_
                refine j_iconst hx dX10_choose_160 ?_
                refine j_iload_n hx 1 dX10_choose_161 rfl ?_
                refine j_ishl hx dX10_choose_162 (fun v40 f41 f42 => ?_)
                refine j_ior hx dX10_choose_163 (fun v43 f44 f45 => ?_)
                refine j_iload_n hx 3 dX10_choose_164 rfl ?_
                refine j_iconst hx dX10_choose_165 ?_
                refine j_isub hx (r := x3 - 1) dX10_choose_166 rfl ?_
                refine j_callV hx hG (c_X10_choose_12 hst a 12 v43 (x3 - 1)) lk_RX10_54 ha (by decide) rfl rfl rfl rfl [.int (zI 12), .int (zI v43), .int (zI (x3 - 1))] ⟨rfl, hG, hS_s19, ha, (by omega), (by omega), (by omega)⟩ rfl rfl ⟨by decide, by decide⟩ ⟨by decide, by decide⟩ (k2 := 0) (n2 := 0) rfl rfl (Nat.le_of_ble_eq_true rfl) dX10_choose_167 (kVM (fun s20 hS_s20 hF_s20 q47 => ?_))
                exact j_vret hx hq rfl (by decide) (by decide) dX10_choose_170 ⟨rfl, rfl, hS_s20, (zFr_t (zFr_t (zFr_t (zFr_t (zFr_t (zFr_t (zFr_t zFr_rf hF_s11 (by decide)) hF_s12 (by decide)) hF_s14 (by decide)) hF_s17 (by decide)) hF_s18 (by decide)) hF_s19 (by decide)) hF_s20 (by decide)), trivial⟩
        refine j_icmp_eq hx 101 dX10_choose_78 rfl (by omega) ⟨by decide, by decide⟩ (fun h48 => ?_) (fun h48 => ?_)
        · skip
          exact j_sub [4, 5, 6, 7, 3, 2, 1] [(0, .ref a), (1, .int (zI 11)), (2, .int (zI x2)), (3, .int (zI x3)), (4, .ref r1), (5, .ref r5), (6, .int (zI v20))] rfl (c101_13 s12 hS_s12 zFr_rf)
        · skip
          refine j_iload hx 0 dX10_choose_81 rfl ?_
          refine j_iconst hx dX10_choose_83 ?_
          refine j_icmp_eq hx 101 dX10_choose_84 rfl (by omega) ⟨by decide, by decide⟩ (fun h49 => ?_) (fun h49 => ?_)
          · skip
            exact j_sub [4, 5, 6, 7, 3, 2, 1] [(0, .ref a), (1, .int (zI 11)), (2, .int (zI x2)), (3, .int (zI x3)), (4, .ref r1), (5, .ref r5), (6, .int (zI v20))] rfl (c101_13 s12 hS_s12 zFr_rf)
          · skip
            refine j_aload hx 2 dX10_choose_87 rfl ?_
            refine j_iload hx 0 dX10_choose_89 rfl ?_
            refine j_iload hx 1 dX10_choose_91 rfl ?_
            refine j_aload_n hx 4 dX10_choose_93 rfl ?_
            have f50 := zf hS0 ha (k := 3) rfl
            refine g11_3 hx hG ha kf_RX10_45 (v := (s0 a 3)) (by rw [(zFr_g hF_s12 ha (by decide)), (zFr_g hF_s11 ha (by decide))]) dX10_choose_94 ?_
            refine j_callV hx hG (c_X0_win hst r5 v23 v20 ((s0 a 3))) lk_RX10_69 q6.1 (by decide) rfl rfl rfl rfl [.int (zI v23), .int (zI v20), .int (zI ((s0 a 3)))] ⟨rfl, hG, hS_s12, q6.1, (by omega), (by omega), (by omega)⟩ rfl rfl ⟨by decide, by decide⟩ ⟨by decide, by decide⟩ (k2 := 0) (n2 := 0) rfl rfl (Nat.le_of_ble_eq_true rfl) dX10_choose_97 (kIM (fun v51 s21 hS_s21 hF_s21 q52 => ?_))
            refine j_pop hx dX10_choose_100 rfl ?_
            exact j_sub [4, 5, 6, 7, 3, 2, 1] [(0, .ref a), (1, .int (zI 11)), (2, .int (zI x2)), (3, .int (zI x3)), (4, .ref r1), (5, .ref r5), (6, .int (zI v20))] rfl (c101_13 s21 hS_s21 (zFr_t zFr_rf hF_s21 (by decide)))
      · skip
        exact j_sub [2, 4, 1] [(0, .ref a), (2, .int (zI x2)), (4, .ref r1)] rfl (c35_6 s11 hS_s11 (zFr_t zFr_rf hF_s11 (by decide)))

set_option maxHeartbeats 4000000 in
set_option maxRecDepth 20000 in
theorem c_X10_choose_10 {E : zE} {l : Launch} (hst : l.stackTraces = false) (a : Nat) (x1 : Int) (x2 : Int) (x3 : Int) : Con E l yX10_choose cX10_choose 8 none { frames := 5, cells := 0, slots := 0, locals := 113 } (fun G s vs => vs = [.ref a, .int (zI x1), .int (zI x2), .int (zI x3)] ∧ zGK G ∧ zSK G s ∧ (gT G a = 11) ∧ (10 ≤ x1 ∧ x1 ≤ 10) ∧ ((-2147483648) ≤ x2 ∧ x2 ≤ 2147483647) ∧ (0 ≤ x3 ∧ x3 ≤ 4)) (fun G s _ => pV (fun G2 s2 => G2 = G ∧ zSK G s2 ∧ zFr [1, 7, 11, 41] G s s2 ∧ True)) := by
  refine Con.mk hst (by decide) (fun G s vs h => by rw [h.1]; exact Nat.le_of_ble_eq_true rfl) ?_
  rintro X G s0 vs ⟨rfl, hG, hS0, ha, hx1, hx2, hx3⟩ rfl hx hq
  obtain rfl : x1 = 10 := by omega
  show JJ X E 8 G s0 0 0 [(0, .ref a), (1, .int (zI 10)), (2, .int (zI x2)), (3, .int (zI x3))] 0 []
  refine j_aload_n hx 0 dX10_choose_0 rfl ?_
  refine j_iload_n hx 1 dX10_choose_1 rfl ?_
  refine j_callV hx hG (c_X10_boardAt hst a 10) lk_RX10_22 ha (by decide) rfl rfl rfl rfl [.int (zI 10)] ⟨rfl, hG, hS0, ha, (by omega)⟩ rfl rfl ⟨by decide, by decide⟩ ⟨by decide, by decide⟩ (k2 := 0) (n2 := 0) rfl rfl (Nat.le_of_ble_eq_true rfl) dX10_choose_2 (kNP (fun _ => ?_) (fun r1 q2 => ?_))
  · skip
    refine j_astoreN hx [(4, .null), (0, .ref a), (1, .int (zI 10)), (2, .int (zI x2)), (3, .int (zI x3))] dX10_choose_5 (by decide) rfl ?_
    refine j_aload_n hx 1 dX10_choose_7 rfl ?_
    refine j_iload_n hx 2 dX10_choose_8 rfl ?_
    refine j_iconst hx dX10_choose_9 ?_
    refine j_iadd hx (r := 11) dX10_choose_10 (by omega) ?_
    refine j_callV hx hG (c_X10_boardAt hst a 11) lk_RX10_22 ha (by decide) rfl rfl rfl rfl [.int (zI 11)] ⟨rfl, hG, hS0, ha, (by omega)⟩ rfl rfl ⟨by decide, by decide⟩ ⟨by decide, by decide⟩ (k2 := 0) (n2 := 0) rfl rfl (Nat.le_of_ble_eq_true rfl) dX10_choose_11 (kNP (fun _ => ?_) (fun r3 q4 => ?_))
    · skip
      refine j_astoreN hx [(5, .null), (4, .null), (0, .ref a), (1, .int (zI 10)), (2, .int (zI x2)), (3, .int (zI x3))] dX10_choose_14 (by decide) rfl ?_
      refine j_aloadN hx 1 dX10_choose_16 rfl ?_
      refine j_ifnonnullN hx dX10_choose_18 ?_
      exact j_vret hx hq rfl (by decide) (by decide) dX10_choose_21 ⟨rfl, rfl, hS0, zFr_rf, trivial⟩
    · skip
      refine j_astore hx [(5, .ref r3), (4, .null), (0, .ref a), (1, .int (zI 10)), (2, .int (zI x2)), (3, .int (zI x3))] dX10_choose_14 (by decide) rfl ?_
      refine j_aloadN hx 1 dX10_choose_16 rfl ?_
      refine j_ifnonnullN hx dX10_choose_18 ?_
      exact j_vret hx hq rfl (by decide) (by decide) dX10_choose_21 ⟨rfl, rfl, hS0, zFr_rf, trivial⟩
  · skip
    refine j_astore hx [(4, .ref r1), (0, .ref a), (1, .int (zI 10)), (2, .int (zI x2)), (3, .int (zI x3))] dX10_choose_5 (by decide) rfl ?_
    refine j_aload_n hx 1 dX10_choose_7 rfl ?_
    refine j_iload_n hx 2 dX10_choose_8 rfl ?_
    refine j_iconst hx dX10_choose_9 ?_
    refine j_iadd hx (r := 11) dX10_choose_10 (by omega) ?_
    refine j_callV hx hG (c_X10_boardAt hst a 11) lk_RX10_22 ha (by decide) rfl rfl rfl rfl [.int (zI 11)] ⟨rfl, hG, hS0, ha, (by omega)⟩ rfl rfl ⟨by decide, by decide⟩ ⟨by decide, by decide⟩ (k2 := 0) (n2 := 0) rfl rfl (Nat.le_of_ble_eq_true rfl) dX10_choose_11 (kNP (fun _ => ?_) (fun r5 q6 => ?_))
    · skip
      refine j_astoreN hx [(5, .null), (4, .ref r1), (0, .ref a), (1, .int (zI 10)), (2, .int (zI x2)), (3, .int (zI x3))] dX10_choose_14 (by decide) rfl ?_
      refine j_aload hx 1 dX10_choose_16 rfl ?_
      refine j_ifnonnull hx 22 dX10_choose_18 rfl ?_
      refine j_aloadN hx 0 dX10_choose_22 rfl ?_
      have c35_1 : ∀ (s2 : zS), (zSK G s2) → (zFr [1, 7, 41] G s0 s2) → JJ X E 8 G s2 0 0 [(0, .ref a), (2, .int (zI x2)), (4, .ref r1)] 35 [] := by
        intro s2 hS_s2 hF_s2
        refine j_aload_n hx 0 dX10_choose_35 rfl ?_
        refine j_aload hx 2 dX10_choose_36 rfl ?_
        refine j_aload_n hx 0 dX10_choose_38 rfl ?_
        have f7 := zf hS0 ha (k := 2) rfl
        refine g11_2 hx hG ha kf_RX10_41 (v := (s0 a 2)) (by rw [(zFr_g hF_s2 ha (by decide))]) dX10_choose_39 ?_
        refine j_callV hx hG (c_X0_cardsOf hst r1 ((s0 a 2))) lk_RX10_58 q2.1 (by decide) rfl rfl rfl rfl [.int (zI ((s0 a 2)))] ⟨rfl, hG, hS_s2, q2.1, (by omega)⟩ rfl rfl ⟨by decide, by decide⟩ ⟨by decide, by decide⟩ (k2 := 0) (n2 := 0) rfl rfl (Nat.le_of_ble_eq_true rfl) dX10_choose_42 (kIP (fun v8 q9 => ?_))
        refine j_iload_n hx 1 dX10_choose_45 rfl ?_
        refine j_callV hx hG (c_X10_keepBetter hst a v8 x2) lk_RX10_62 ha (by decide) rfl rfl rfl rfl [.int (zI v8), .int (zI x2)] ⟨rfl, hG, hS_s2, ha, (by omega), (by omega)⟩ rfl rfl ⟨by decide, by decide⟩ ⟨by decide, by decide⟩ (k2 := 0) (n2 := 0) rfl rfl (Nat.le_of_ble_eq_true rfl) dX10_choose_46 (kVM (fun s5 hS_s5 hF_s5 q11 => ?_))
        exact j_vret hx hq rfl (by decide) (by decide) dX10_choose_49 ⟨rfl, rfl, hS_s5, (zFr_t (zFr_t zFr_rf hF_s2 (by decide)) hF_s5 (by decide)), trivial⟩
      refine j_ifnullN hx 35 dX10_choose_24 rfl ?_
      exact j_sub [2, 4, 1] [(0, .ref a), (2, .int (zI x2)), (4, .ref r1)] rfl (c35_1 s0 hS0 zFr_rf)
    · skip
      refine j_astore hx [(5, .ref r5), (4, .ref r1), (0, .ref a), (1, .int (zI 10)), (2, .int (zI x2)), (3, .int (zI x3))] dX10_choose_14 (by decide) rfl ?_
      refine j_aload hx 1 dX10_choose_16 rfl ?_
      refine j_ifnonnull hx 22 dX10_choose_18 rfl ?_
      refine j_aload hx 0 dX10_choose_22 rfl ?_
      have c35_6 : ∀ (s7 : zS), (zSK G s7) → (zFr [1, 7, 41] G s0 s7) → JJ X E 8 G s7 0 0 [(0, .ref a), (2, .int (zI x2)), (4, .ref r1)] 35 [] := by
        intro s7 hS_s7 hF_s7
        refine j_aload_n hx 0 dX10_choose_35 rfl ?_
        refine j_aload hx 2 dX10_choose_36 rfl ?_
        refine j_aload_n hx 0 dX10_choose_38 rfl ?_
        have f12 := zf hS0 ha (k := 2) rfl
        refine g11_2 hx hG ha kf_RX10_41 (v := (s0 a 2)) (by rw [(zFr_g hF_s7 ha (by decide))]) dX10_choose_39 ?_
        refine j_callV hx hG (c_X0_cardsOf hst r1 ((s0 a 2))) lk_RX10_58 q2.1 (by decide) rfl rfl rfl rfl [.int (zI ((s0 a 2)))] ⟨rfl, hG, hS_s7, q2.1, (by omega)⟩ rfl rfl ⟨by decide, by decide⟩ ⟨by decide, by decide⟩ (k2 := 0) (n2 := 0) rfl rfl (Nat.le_of_ble_eq_true rfl) dX10_choose_42 (kIP (fun v13 q14 => ?_))
        refine j_iload_n hx 1 dX10_choose_45 rfl ?_
        refine j_callV hx hG (c_X10_keepBetter hst a v13 x2) lk_RX10_62 ha (by decide) rfl rfl rfl rfl [.int (zI v13), .int (zI x2)] ⟨rfl, hG, hS_s7, ha, (by omega), (by omega)⟩ rfl rfl ⟨by decide, by decide⟩ ⟨by decide, by decide⟩ (k2 := 0) (n2 := 0) rfl rfl (Nat.le_of_ble_eq_true rfl) dX10_choose_46 (kVM (fun s10 hS_s10 hF_s10 q16 => ?_))
        exact j_vret hx hq rfl (by decide) (by decide) dX10_choose_49 ⟨rfl, rfl, hS_s10, (zFr_t (zFr_t zFr_rf hF_s7 (by decide)) hF_s10 (by decide)), trivial⟩
      refine j_ifnull hx dX10_choose_24 ?_
      refine j_aload hx 1 dX10_choose_27 rfl ?_
      refine j_callV hx hG (c_X0_step hst r1) lk_RX10_33 q2.1 (by decide) rfl rfl rfl rfl [] ⟨rfl, hG, hS0, q2.1⟩ rfl rfl ⟨by decide, by decide⟩ ⟨by decide, by decide⟩ (k2 := 0) (n2 := 0) rfl rfl (Nat.le_of_ble_eq_true rfl) dX10_choose_29 (kIM (fun v17 s11 hS_s11 hF_s11 q18 => ?_))
      refine j_if_ne hx 50 dX10_choose_32 rfl (by omega) (fun h19 => ?_) (fun h19 => ?_)
      · skip
        refine j_aload hx 1 dX10_choose_50 rfl ?_
        refine j_callV hx hG (c_X0_likeTops hst r1) lk_RX10_37 q2.1 (by decide) rfl rfl rfl rfl [] ⟨rfl, hG, hS_s11, q2.1⟩ rfl rfl ⟨by decide, by decide⟩ ⟨by decide, by decide⟩ (k2 := 0) (n2 := 0) rfl rfl (Nat.le_of_ble_eq_true rfl) dX10_choose_52 (kIP (fun v20 q21 => ?_))
        refine j_istore hx [(6, .int (zI v20)), (5, .ref r5), (4, .ref r1), (0, .ref a), (1, .int (zI 10)), (2, .int (zI x2)), (3, .int (zI x3))] dX10_choose_55 (by decide) rfl ?_
        refine j_aload hx 2 dX10_choose_57 rfl ?_
        refine j_aload_n hx 3 dX10_choose_59 rfl ?_
        have f22 := zf hS0 ha (k := 2) rfl
        refine g11_2 hx hG ha kf_RX10_41 (v := (s0 a 2)) (by rw [(zFr_g hF_s11 ha (by decide))]) dX10_choose_60 ?_
        refine j_callV hx hG (c_X0_following hst r1 ((s0 a 2))) lk_RX10_66 q2.1 (by decide) rfl rfl rfl rfl [.int (zI ((s0 a 2)))] ⟨rfl, hG, hS_s11, q2.1, (by omega)⟩ rfl rfl ⟨by decide, by decide⟩ ⟨by decide, by decide⟩ (k2 := 0) (n2 := 0) rfl rfl (Nat.le_of_ble_eq_true rfl) dX10_choose_63 (kIP (fun v23 q24 => ?_))
        refine j_istore hx [(7, .int (zI v23)), (6, .int (zI v20)), (5, .ref r5), (4, .ref r1), (0, .ref a), (1, .int (zI 10)), (2, .int (zI x2)), (3, .int (zI x3))] dX10_choose_66 (by decide) rfl ?_
        refine j_aload hx 2 dX10_choose_68 rfl ?_
        refine j_aload hx 3 dX10_choose_70 rfl ?_
        refine j_callV hx hG (c_X0_become hst r5 r1) lk_RX10_26 q6.1 (by decide) rfl rfl rfl rfl [.ref r1] ⟨rfl, hG, hS_s11, q6.1, q2.1⟩ rfl rfl ⟨by decide, by decide⟩ ⟨by decide, by decide⟩ (k2 := 0) (n2 := 0) rfl rfl (Nat.le_of_ble_eq_true rfl) dX10_choose_72 (kVM (fun s12 hS_s12 hF_s12 q26 => ?_))
        refine j_iload hx 1 dX10_choose_75 rfl ?_
        refine j_iconst hx dX10_choose_77 ?_
        have c101_13 : ∀ (s14 : zS), (zSK G s14) → (zFr [7, 41] G s12 s14) → JJ X E 8 G s14 0 0 [(0, .ref a), (1, .int (zI 10)), (2, .int (zI x2)), (3, .int (zI x3)), (4, .ref r1), (5, .ref r5), (6, .int (zI v20))] 101 [] := by
          intro s14 hS_s14 hF_s14
          refine j_aload_n hx 0 dX10_choose_101 rfl ?_
          refine j_iload_n hx 1 dX10_choose_102 rfl ?_
          refine j_iconst hx dX10_choose_103 ?_
          refine j_iadd hx (r := 11) dX10_choose_104 (by omega) ?_
          refine j_iload_n hx 2 dX10_choose_105 rfl ?_
          refine j_iload_n hx 3 dX10_choose_106 rfl ?_
          refine j_callV hx hG (c_X10_choose_11 hst a 11 x2 x3) lk_RX10_54 ha (by decide) rfl rfl rfl rfl [.int (zI 11), .int (zI x2), .int (zI x3)] ⟨rfl, hG, hS_s14, ha, (by omega), (by omega), (by omega)⟩ rfl rfl ⟨by decide, by decide⟩ ⟨by decide, by decide⟩ (k2 := 0) (n2 := 0) rfl rfl (Nat.le_of_ble_eq_true rfl) dX10_choose_107 (kVM (fun s17 hS_s17 hF_s17 q28 => ?_))
          refine j_iload hx 6 dX10_choose_110 rfl ?_
          refine j_iconst hx dX10_choose_112 ?_
          refine j_icmp_eq hx 170 dX10_choose_113 rfl (by omega) ⟨by decide, by decide⟩ (fun h29 => ?_) (fun h29 => ?_)
          · skip
            exact j_vret hx hq rfl (by decide) (by decide) dX10_choose_170 ⟨rfl, rfl, hS_s17, (zFr_t (zFr_t (zFr_t (zFr_t zFr_rf hF_s11 (by decide)) hF_s12 (by decide)) hF_s14 (by decide)) hF_s17 (by decide)), trivial⟩
          · skip
            refine j_iload_n hx 3 dX10_choose_116 rfl ?_
            refine j_if_le hx 170 dX10_choose_117 rfl (by omega) (fun h30 => ?_) (fun h30 => ?_)
            · skip
              exact j_vret hx hq rfl (by decide) (by decide) dX10_choose_170 ⟨rfl, rfl, hS_s17, (zFr_t (zFr_t (zFr_t (zFr_t zFr_rf hF_s11 (by decide)) hF_s12 (by decide)) hF_s14 (by decide)) hF_s17 (by decide)), trivial⟩
            · skip
              refine j_aload hx 4 dX10_choose_120 rfl ?_
              refine j_aload_n hx 0 dX10_choose_122 rfl ?_
              have f31 := zf hS_s17 ha (k := 2) rfl
              refine g11_2 hx hG ha kf_RX10_41 rfl dX10_choose_123 ?_
              refine j_callV hx hG (c_X0_isOut hst r1 ((s17 a 2))) lk_RX10_73 q2.1 (by decide) rfl rfl rfl rfl [.int (zI ((s17 a 2)))] ⟨rfl, hG, hS_s17, q2.1, (by omega)⟩ rfl rfl ⟨by decide, by decide⟩ ⟨by decide, by decide⟩ (k2 := 0) (n2 := 0) rfl rfl (Nat.le_of_ble_eq_true rfl) dX10_choose_126 (kIP (fun v32 q33 => ?_))
              refine j_if_ne hx 170 dX10_choose_129 rfl (by omega) (fun h34 => ?_) (fun h34 => ?_)
              · skip
                exact j_vret hx hq rfl (by decide) (by decide) dX10_choose_170 ⟨rfl, rfl, hS_s17, (zFr_t (zFr_t (zFr_t (zFr_t zFr_rf hF_s11 (by decide)) hF_s12 (by decide)) hF_s14 (by decide)) hF_s17 (by decide)), trivial⟩
              · skip
                refine j_aload hx 5 dX10_choose_132 rfl ?_
                refine j_aload hx 4 dX10_choose_134 rfl ?_
                refine j_callV hx hG (c_X0_become hst r5 r1) lk_RX10_26 q6.1 (by decide) rfl rfl rfl rfl [.ref r1] ⟨rfl, hG, hS_s17, q6.1, q2.1⟩ rfl rfl ⟨by decide, by decide⟩ ⟨by decide, by decide⟩ (k2 := 0) (n2 := 0) rfl rfl (Nat.le_of_ble_eq_true rfl) dX10_choose_136 (kVM (fun s18 hS_s18 hF_s18 q36 => ?_))
                refine j_aload hx 5 dX10_choose_139 rfl ?_
                refine j_aload_n hx 0 dX10_choose_141 rfl ?_
                refine g11_2 hx hG ha kf_RX10_41 (v := (s17 a 2)) (by rw [(zFr_g hF_s18 ha (by decide))]) dX10_choose_142 ?_
                refine j_iload hx 6 dX10_choose_145 rfl ?_
                refine j_aload_n hx 0 dX10_choose_147 rfl ?_
                have f37 := zf hS_s17 ha (k := 3) rfl
                refine g11_3 hx hG ha kf_RX10_45 (v := (s17 a 3)) (by rw [(zFr_g hF_s18 ha (by decide))]) dX10_choose_148 ?_
                refine j_callV hx hG (c_X0_win hst r5 ((s17 a 2)) v20 ((s17 a 3))) lk_RX10_69 q6.1 (by decide) rfl rfl rfl rfl [.int (zI ((s17 a 2))), .int (zI v20), .int (zI ((s17 a 3)))] ⟨rfl, hG, hS_s18, q6.1, (by omega), (by omega), (by omega)⟩ rfl rfl ⟨by decide, by decide⟩ ⟨by decide, by decide⟩ (k2 := 0) (n2 := 0) rfl rfl (Nat.le_of_ble_eq_true rfl) dX10_choose_151 (kIM (fun v38 s19 hS_s19 hF_s19 q39 => ?_))
                refine j_pop hx dX10_choose_154 rfl ?_
                refine j_aload_n hx 0 dX10_choose_155 rfl ?_
                refine j_iload_n hx 1 dX10_choose_156 rfl ?_
                refine j_iconst hx dX10_choose_157 ?_
                refine j_iadd hx (r := 11) dX10_choose_158 (by omega) ?_
                refine j_iload_n hx 2 dX10_choose_159 rfl ?_
                refine j_iconst hx dX10_choose_160 ?_
                refine j_iload_n hx 1 dX10_choose_161 rfl ?_
                refine j_ishl hx dX10_choose_162 (fun v40 f41 f42 => ?_)
                refine j_ior hx dX10_choose_163 (fun v43 f44 f45 => ?_)
                refine j_iload_n hx 3 dX10_choose_164 rfl ?_
                refine j_iconst hx dX10_choose_165 ?_
                refine j_isub hx (r := x3 - 1) dX10_choose_166 rfl ?_
                refine j_callV hx hG (c_X10_choose_11 hst a 11 v43 (x3 - 1)) lk_RX10_54 ha (by decide) rfl rfl rfl rfl [.int (zI 11), .int (zI v43), .int (zI (x3 - 1))] ⟨rfl, hG, hS_s19, ha, (by omega), (by omega), (by omega)⟩ rfl rfl ⟨by decide, by decide⟩ ⟨by decide, by decide⟩ (k2 := 0) (n2 := 0) rfl rfl (Nat.le_of_ble_eq_true rfl) dX10_choose_167 (kVM (fun s20 hS_s20 hF_s20 q47 => ?_))
                exact j_vret hx hq rfl (by decide) (by decide) dX10_choose_170 ⟨rfl, rfl, hS_s20, (zFr_t (zFr_t (zFr_t (zFr_t (zFr_t (zFr_t (zFr_t zFr_rf hF_s11 (by decide)) hF_s12 (by decide)) hF_s14 (by decide)) hF_s17 (by decide)) hF_s18 (by decide)) hF_s19 (by decide)) hF_s20 (by decide)), trivial⟩
        refine j_icmp_eq hx 101 dX10_choose_78 rfl (by omega) ⟨by decide, by decide⟩ (fun h48 => ?_) (fun h48 => ?_)
        · skip
          exact j_sub [4, 5, 6, 7, 3, 2, 1] [(0, .ref a), (1, .int (zI 10)), (2, .int (zI x2)), (3, .int (zI x3)), (4, .ref r1), (5, .ref r5), (6, .int (zI v20))] rfl (c101_13 s12 hS_s12 zFr_rf)
        · skip
          refine j_iload hx 0 dX10_choose_81 rfl ?_
          refine j_iconst hx dX10_choose_83 ?_
          refine j_icmp_eq hx 101 dX10_choose_84 rfl (by omega) ⟨by decide, by decide⟩ (fun h49 => ?_) (fun h49 => ?_)
          · skip
            exact j_sub [4, 5, 6, 7, 3, 2, 1] [(0, .ref a), (1, .int (zI 10)), (2, .int (zI x2)), (3, .int (zI x3)), (4, .ref r1), (5, .ref r5), (6, .int (zI v20))] rfl (c101_13 s12 hS_s12 zFr_rf)
          · skip
            refine j_aload hx 2 dX10_choose_87 rfl ?_
            refine j_iload hx 0 dX10_choose_89 rfl ?_
            refine j_iload hx 1 dX10_choose_91 rfl ?_
            refine j_aload_n hx 4 dX10_choose_93 rfl ?_
            have f50 := zf hS0 ha (k := 3) rfl
            refine g11_3 hx hG ha kf_RX10_45 (v := (s0 a 3)) (by rw [(zFr_g hF_s12 ha (by decide)), (zFr_g hF_s11 ha (by decide))]) dX10_choose_94 ?_
            refine j_callV hx hG (c_X0_win hst r5 v23 v20 ((s0 a 3))) lk_RX10_69 q6.1 (by decide) rfl rfl rfl rfl [.int (zI v23), .int (zI v20), .int (zI ((s0 a 3)))] ⟨rfl, hG, hS_s12, q6.1, (by omega), (by omega), (by omega)⟩ rfl rfl ⟨by decide, by decide⟩ ⟨by decide, by decide⟩ (k2 := 0) (n2 := 0) rfl rfl (Nat.le_of_ble_eq_true rfl) dX10_choose_97 (kIM (fun v51 s21 hS_s21 hF_s21 q52 => ?_))
            refine j_pop hx dX10_choose_100 rfl ?_
            exact j_sub [4, 5, 6, 7, 3, 2, 1] [(0, .ref a), (1, .int (zI 10)), (2, .int (zI x2)), (3, .int (zI x3)), (4, .ref r1), (5, .ref r5), (6, .int (zI v20))] rfl (c101_13 s21 hS_s21 (zFr_t zFr_rf hF_s21 (by decide)))
      · skip
        exact j_sub [2, 4, 1] [(0, .ref a), (2, .int (zI x2)), (4, .ref r1)] rfl (c35_6 s11 hS_s11 (zFr_t zFr_rf hF_s11 (by decide)))

set_option maxHeartbeats 4000000 in
set_option maxRecDepth 20000 in
theorem c_X10_choose_9 {E : zE} {l : Launch} (hst : l.stackTraces = false) (a : Nat) (x1 : Int) (x2 : Int) (x3 : Int) : Con E l yX10_choose cX10_choose 8 none { frames := 6, cells := 0, slots := 0, locals := 140 } (fun G s vs => vs = [.ref a, .int (zI x1), .int (zI x2), .int (zI x3)] ∧ zGK G ∧ zSK G s ∧ (gT G a = 11) ∧ (9 ≤ x1 ∧ x1 ≤ 9) ∧ ((-2147483648) ≤ x2 ∧ x2 ≤ 2147483647) ∧ (0 ≤ x3 ∧ x3 ≤ 4)) (fun G s _ => pV (fun G2 s2 => G2 = G ∧ zSK G s2 ∧ zFr [1, 7, 11, 41] G s s2 ∧ True)) := by
  refine Con.mk hst (by decide) (fun G s vs h => by rw [h.1]; exact Nat.le_of_ble_eq_true rfl) ?_
  rintro X G s0 vs ⟨rfl, hG, hS0, ha, hx1, hx2, hx3⟩ rfl hx hq
  obtain rfl : x1 = 9 := by omega
  show JJ X E 8 G s0 0 0 [(0, .ref a), (1, .int (zI 9)), (2, .int (zI x2)), (3, .int (zI x3))] 0 []
  refine j_aload_n hx 0 dX10_choose_0 rfl ?_
  refine j_iload_n hx 1 dX10_choose_1 rfl ?_
  refine j_callV hx hG (c_X10_boardAt hst a 9) lk_RX10_22 ha (by decide) rfl rfl rfl rfl [.int (zI 9)] ⟨rfl, hG, hS0, ha, (by omega)⟩ rfl rfl ⟨by decide, by decide⟩ ⟨by decide, by decide⟩ (k2 := 0) (n2 := 0) rfl rfl (Nat.le_of_ble_eq_true rfl) dX10_choose_2 (kNP (fun _ => ?_) (fun r1 q2 => ?_))
  · skip
    refine j_astoreN hx [(4, .null), (0, .ref a), (1, .int (zI 9)), (2, .int (zI x2)), (3, .int (zI x3))] dX10_choose_5 (by decide) rfl ?_
    refine j_aload_n hx 1 dX10_choose_7 rfl ?_
    refine j_iload_n hx 2 dX10_choose_8 rfl ?_
    refine j_iconst hx dX10_choose_9 ?_
    refine j_iadd hx (r := 10) dX10_choose_10 (by omega) ?_
    refine j_callV hx hG (c_X10_boardAt hst a 10) lk_RX10_22 ha (by decide) rfl rfl rfl rfl [.int (zI 10)] ⟨rfl, hG, hS0, ha, (by omega)⟩ rfl rfl ⟨by decide, by decide⟩ ⟨by decide, by decide⟩ (k2 := 0) (n2 := 0) rfl rfl (Nat.le_of_ble_eq_true rfl) dX10_choose_11 (kNP (fun _ => ?_) (fun r3 q4 => ?_))
    · skip
      refine j_astoreN hx [(5, .null), (4, .null), (0, .ref a), (1, .int (zI 9)), (2, .int (zI x2)), (3, .int (zI x3))] dX10_choose_14 (by decide) rfl ?_
      refine j_aloadN hx 1 dX10_choose_16 rfl ?_
      refine j_ifnonnullN hx dX10_choose_18 ?_
      exact j_vret hx hq rfl (by decide) (by decide) dX10_choose_21 ⟨rfl, rfl, hS0, zFr_rf, trivial⟩
    · skip
      refine j_astore hx [(5, .ref r3), (4, .null), (0, .ref a), (1, .int (zI 9)), (2, .int (zI x2)), (3, .int (zI x3))] dX10_choose_14 (by decide) rfl ?_
      refine j_aloadN hx 1 dX10_choose_16 rfl ?_
      refine j_ifnonnullN hx dX10_choose_18 ?_
      exact j_vret hx hq rfl (by decide) (by decide) dX10_choose_21 ⟨rfl, rfl, hS0, zFr_rf, trivial⟩
  · skip
    refine j_astore hx [(4, .ref r1), (0, .ref a), (1, .int (zI 9)), (2, .int (zI x2)), (3, .int (zI x3))] dX10_choose_5 (by decide) rfl ?_
    refine j_aload_n hx 1 dX10_choose_7 rfl ?_
    refine j_iload_n hx 2 dX10_choose_8 rfl ?_
    refine j_iconst hx dX10_choose_9 ?_
    refine j_iadd hx (r := 10) dX10_choose_10 (by omega) ?_
    refine j_callV hx hG (c_X10_boardAt hst a 10) lk_RX10_22 ha (by decide) rfl rfl rfl rfl [.int (zI 10)] ⟨rfl, hG, hS0, ha, (by omega)⟩ rfl rfl ⟨by decide, by decide⟩ ⟨by decide, by decide⟩ (k2 := 0) (n2 := 0) rfl rfl (Nat.le_of_ble_eq_true rfl) dX10_choose_11 (kNP (fun _ => ?_) (fun r5 q6 => ?_))
    · skip
      refine j_astoreN hx [(5, .null), (4, .ref r1), (0, .ref a), (1, .int (zI 9)), (2, .int (zI x2)), (3, .int (zI x3))] dX10_choose_14 (by decide) rfl ?_
      refine j_aload hx 1 dX10_choose_16 rfl ?_
      refine j_ifnonnull hx 22 dX10_choose_18 rfl ?_
      refine j_aloadN hx 0 dX10_choose_22 rfl ?_
      have c35_1 : ∀ (s2 : zS), (zSK G s2) → (zFr [1, 7, 41] G s0 s2) → JJ X E 8 G s2 0 0 [(0, .ref a), (2, .int (zI x2)), (4, .ref r1)] 35 [] := by
        intro s2 hS_s2 hF_s2
        refine j_aload_n hx 0 dX10_choose_35 rfl ?_
        refine j_aload hx 2 dX10_choose_36 rfl ?_
        refine j_aload_n hx 0 dX10_choose_38 rfl ?_
        have f7 := zf hS0 ha (k := 2) rfl
        refine g11_2 hx hG ha kf_RX10_41 (v := (s0 a 2)) (by rw [(zFr_g hF_s2 ha (by decide))]) dX10_choose_39 ?_
        refine j_callV hx hG (c_X0_cardsOf hst r1 ((s0 a 2))) lk_RX10_58 q2.1 (by decide) rfl rfl rfl rfl [.int (zI ((s0 a 2)))] ⟨rfl, hG, hS_s2, q2.1, (by omega)⟩ rfl rfl ⟨by decide, by decide⟩ ⟨by decide, by decide⟩ (k2 := 0) (n2 := 0) rfl rfl (Nat.le_of_ble_eq_true rfl) dX10_choose_42 (kIP (fun v8 q9 => ?_))
        refine j_iload_n hx 1 dX10_choose_45 rfl ?_
        refine j_callV hx hG (c_X10_keepBetter hst a v8 x2) lk_RX10_62 ha (by decide) rfl rfl rfl rfl [.int (zI v8), .int (zI x2)] ⟨rfl, hG, hS_s2, ha, (by omega), (by omega)⟩ rfl rfl ⟨by decide, by decide⟩ ⟨by decide, by decide⟩ (k2 := 0) (n2 := 0) rfl rfl (Nat.le_of_ble_eq_true rfl) dX10_choose_46 (kVM (fun s5 hS_s5 hF_s5 q11 => ?_))
        exact j_vret hx hq rfl (by decide) (by decide) dX10_choose_49 ⟨rfl, rfl, hS_s5, (zFr_t (zFr_t zFr_rf hF_s2 (by decide)) hF_s5 (by decide)), trivial⟩
      refine j_ifnullN hx 35 dX10_choose_24 rfl ?_
      exact j_sub [2, 4, 1] [(0, .ref a), (2, .int (zI x2)), (4, .ref r1)] rfl (c35_1 s0 hS0 zFr_rf)
    · skip
      refine j_astore hx [(5, .ref r5), (4, .ref r1), (0, .ref a), (1, .int (zI 9)), (2, .int (zI x2)), (3, .int (zI x3))] dX10_choose_14 (by decide) rfl ?_
      refine j_aload hx 1 dX10_choose_16 rfl ?_
      refine j_ifnonnull hx 22 dX10_choose_18 rfl ?_
      refine j_aload hx 0 dX10_choose_22 rfl ?_
      have c35_6 : ∀ (s7 : zS), (zSK G s7) → (zFr [1, 7, 41] G s0 s7) → JJ X E 8 G s7 0 0 [(0, .ref a), (2, .int (zI x2)), (4, .ref r1)] 35 [] := by
        intro s7 hS_s7 hF_s7
        refine j_aload_n hx 0 dX10_choose_35 rfl ?_
        refine j_aload hx 2 dX10_choose_36 rfl ?_
        refine j_aload_n hx 0 dX10_choose_38 rfl ?_
        have f12 := zf hS0 ha (k := 2) rfl
        refine g11_2 hx hG ha kf_RX10_41 (v := (s0 a 2)) (by rw [(zFr_g hF_s7 ha (by decide))]) dX10_choose_39 ?_
        refine j_callV hx hG (c_X0_cardsOf hst r1 ((s0 a 2))) lk_RX10_58 q2.1 (by decide) rfl rfl rfl rfl [.int (zI ((s0 a 2)))] ⟨rfl, hG, hS_s7, q2.1, (by omega)⟩ rfl rfl ⟨by decide, by decide⟩ ⟨by decide, by decide⟩ (k2 := 0) (n2 := 0) rfl rfl (Nat.le_of_ble_eq_true rfl) dX10_choose_42 (kIP (fun v13 q14 => ?_))
        refine j_iload_n hx 1 dX10_choose_45 rfl ?_
        refine j_callV hx hG (c_X10_keepBetter hst a v13 x2) lk_RX10_62 ha (by decide) rfl rfl rfl rfl [.int (zI v13), .int (zI x2)] ⟨rfl, hG, hS_s7, ha, (by omega), (by omega)⟩ rfl rfl ⟨by decide, by decide⟩ ⟨by decide, by decide⟩ (k2 := 0) (n2 := 0) rfl rfl (Nat.le_of_ble_eq_true rfl) dX10_choose_46 (kVM (fun s10 hS_s10 hF_s10 q16 => ?_))
        exact j_vret hx hq rfl (by decide) (by decide) dX10_choose_49 ⟨rfl, rfl, hS_s10, (zFr_t (zFr_t zFr_rf hF_s7 (by decide)) hF_s10 (by decide)), trivial⟩
      refine j_ifnull hx dX10_choose_24 ?_
      refine j_aload hx 1 dX10_choose_27 rfl ?_
      refine j_callV hx hG (c_X0_step hst r1) lk_RX10_33 q2.1 (by decide) rfl rfl rfl rfl [] ⟨rfl, hG, hS0, q2.1⟩ rfl rfl ⟨by decide, by decide⟩ ⟨by decide, by decide⟩ (k2 := 0) (n2 := 0) rfl rfl (Nat.le_of_ble_eq_true rfl) dX10_choose_29 (kIM (fun v17 s11 hS_s11 hF_s11 q18 => ?_))
      refine j_if_ne hx 50 dX10_choose_32 rfl (by omega) (fun h19 => ?_) (fun h19 => ?_)
      · skip
        refine j_aload hx 1 dX10_choose_50 rfl ?_
        refine j_callV hx hG (c_X0_likeTops hst r1) lk_RX10_37 q2.1 (by decide) rfl rfl rfl rfl [] ⟨rfl, hG, hS_s11, q2.1⟩ rfl rfl ⟨by decide, by decide⟩ ⟨by decide, by decide⟩ (k2 := 0) (n2 := 0) rfl rfl (Nat.le_of_ble_eq_true rfl) dX10_choose_52 (kIP (fun v20 q21 => ?_))
        refine j_istore hx [(6, .int (zI v20)), (5, .ref r5), (4, .ref r1), (0, .ref a), (1, .int (zI 9)), (2, .int (zI x2)), (3, .int (zI x3))] dX10_choose_55 (by decide) rfl ?_
        refine j_aload hx 2 dX10_choose_57 rfl ?_
        refine j_aload_n hx 3 dX10_choose_59 rfl ?_
        have f22 := zf hS0 ha (k := 2) rfl
        refine g11_2 hx hG ha kf_RX10_41 (v := (s0 a 2)) (by rw [(zFr_g hF_s11 ha (by decide))]) dX10_choose_60 ?_
        refine j_callV hx hG (c_X0_following hst r1 ((s0 a 2))) lk_RX10_66 q2.1 (by decide) rfl rfl rfl rfl [.int (zI ((s0 a 2)))] ⟨rfl, hG, hS_s11, q2.1, (by omega)⟩ rfl rfl ⟨by decide, by decide⟩ ⟨by decide, by decide⟩ (k2 := 0) (n2 := 0) rfl rfl (Nat.le_of_ble_eq_true rfl) dX10_choose_63 (kIP (fun v23 q24 => ?_))
        refine j_istore hx [(7, .int (zI v23)), (6, .int (zI v20)), (5, .ref r5), (4, .ref r1), (0, .ref a), (1, .int (zI 9)), (2, .int (zI x2)), (3, .int (zI x3))] dX10_choose_66 (by decide) rfl ?_
        refine j_aload hx 2 dX10_choose_68 rfl ?_
        refine j_aload hx 3 dX10_choose_70 rfl ?_
        refine j_callV hx hG (c_X0_become hst r5 r1) lk_RX10_26 q6.1 (by decide) rfl rfl rfl rfl [.ref r1] ⟨rfl, hG, hS_s11, q6.1, q2.1⟩ rfl rfl ⟨by decide, by decide⟩ ⟨by decide, by decide⟩ (k2 := 0) (n2 := 0) rfl rfl (Nat.le_of_ble_eq_true rfl) dX10_choose_72 (kVM (fun s12 hS_s12 hF_s12 q26 => ?_))
        refine j_iload hx 1 dX10_choose_75 rfl ?_
        refine j_iconst hx dX10_choose_77 ?_
        have c101_13 : ∀ (s14 : zS), (zSK G s14) → (zFr [7, 41] G s12 s14) → JJ X E 8 G s14 0 0 [(0, .ref a), (1, .int (zI 9)), (2, .int (zI x2)), (3, .int (zI x3)), (4, .ref r1), (5, .ref r5), (6, .int (zI v20))] 101 [] := by
          intro s14 hS_s14 hF_s14
          refine j_aload_n hx 0 dX10_choose_101 rfl ?_
          refine j_iload_n hx 1 dX10_choose_102 rfl ?_
          refine j_iconst hx dX10_choose_103 ?_
          refine j_iadd hx (r := 10) dX10_choose_104 (by omega) ?_
          refine j_iload_n hx 2 dX10_choose_105 rfl ?_
          refine j_iload_n hx 3 dX10_choose_106 rfl ?_
          refine j_callV hx hG (c_X10_choose_10 hst a 10 x2 x3) lk_RX10_54 ha (by decide) rfl rfl rfl rfl [.int (zI 10), .int (zI x2), .int (zI x3)] ⟨rfl, hG, hS_s14, ha, (by omega), (by omega), (by omega)⟩ rfl rfl ⟨by decide, by decide⟩ ⟨by decide, by decide⟩ (k2 := 0) (n2 := 0) rfl rfl (Nat.le_of_ble_eq_true rfl) dX10_choose_107 (kVM (fun s17 hS_s17 hF_s17 q28 => ?_))
          refine j_iload hx 6 dX10_choose_110 rfl ?_
          refine j_iconst hx dX10_choose_112 ?_
          refine j_icmp_eq hx 170 dX10_choose_113 rfl (by omega) ⟨by decide, by decide⟩ (fun h29 => ?_) (fun h29 => ?_)
          · skip
            exact j_vret hx hq rfl (by decide) (by decide) dX10_choose_170 ⟨rfl, rfl, hS_s17, (zFr_t (zFr_t (zFr_t (zFr_t zFr_rf hF_s11 (by decide)) hF_s12 (by decide)) hF_s14 (by decide)) hF_s17 (by decide)), trivial⟩
          · skip
            refine j_iload_n hx 3 dX10_choose_116 rfl ?_
            refine j_if_le hx 170 dX10_choose_117 rfl (by omega) (fun h30 => ?_) (fun h30 => ?_)
            · skip
              exact j_vret hx hq rfl (by decide) (by decide) dX10_choose_170 ⟨rfl, rfl, hS_s17, (zFr_t (zFr_t (zFr_t (zFr_t zFr_rf hF_s11 (by decide)) hF_s12 (by decide)) hF_s14 (by decide)) hF_s17 (by decide)), trivial⟩
            · skip
              refine j_aload hx 4 dX10_choose_120 rfl ?_
              refine j_aload_n hx 0 dX10_choose_122 rfl ?_
              have f31 := zf hS_s17 ha (k := 2) rfl
              refine g11_2 hx hG ha kf_RX10_41 rfl dX10_choose_123 ?_
              refine j_callV hx hG (c_X0_isOut hst r1 ((s17 a 2))) lk_RX10_73 q2.1 (by decide) rfl rfl rfl rfl [.int (zI ((s17 a 2)))] ⟨rfl, hG, hS_s17, q2.1, (by omega)⟩ rfl rfl ⟨by decide, by decide⟩ ⟨by decide, by decide⟩ (k2 := 0) (n2 := 0) rfl rfl (Nat.le_of_ble_eq_true rfl) dX10_choose_126 (kIP (fun v32 q33 => ?_))
              refine j_if_ne hx 170 dX10_choose_129 rfl (by omega) (fun h34 => ?_) (fun h34 => ?_)
              · skip
                exact j_vret hx hq rfl (by decide) (by decide) dX10_choose_170 ⟨rfl, rfl, hS_s17, (zFr_t (zFr_t (zFr_t (zFr_t zFr_rf hF_s11 (by decide)) hF_s12 (by decide)) hF_s14 (by decide)) hF_s17 (by decide)), trivial⟩
              · skip
                refine j_aload hx 5 dX10_choose_132 rfl ?_
                refine j_aload hx 4 dX10_choose_134 rfl ?_
                refine j_callV hx hG (c_X0_become hst r5 r1) lk_RX10_26 q6.1 (by decide) rfl rfl rfl rfl [.ref r1] ⟨rfl, hG, hS_s17, q6.1, q2.1⟩ rfl rfl ⟨by decide, by decide⟩ ⟨by decide, by decide⟩ (k2 := 0) (n2 := 0) rfl rfl (Nat.le_of_ble_eq_true rfl) dX10_choose_136 (kVM (fun s18 hS_s18 hF_s18 q36 => ?_))
                refine j_aload hx 5 dX10_choose_139 rfl ?_
                refine j_aload_n hx 0 dX10_choose_141 rfl ?_
                refine g11_2 hx hG ha kf_RX10_41 (v := (s17 a 2)) (by rw [(zFr_g hF_s18 ha (by decide))]) dX10_choose_142 ?_
                refine j_iload hx 6 dX10_choose_145 rfl ?_
                refine j_aload_n hx 0 dX10_choose_147 rfl ?_
                have f37 := zf hS_s17 ha (k := 3) rfl
                refine g11_3 hx hG ha kf_RX10_45 (v := (s17 a 3)) (by rw [(zFr_g hF_s18 ha (by decide))]) dX10_choose_148 ?_
                refine j_callV hx hG (c_X0_win hst r5 ((s17 a 2)) v20 ((s17 a 3))) lk_RX10_69 q6.1 (by decide) rfl rfl rfl rfl [.int (zI ((s17 a 2))), .int (zI v20), .int (zI ((s17 a 3)))] ⟨rfl, hG, hS_s18, q6.1, (by omega), (by omega), (by omega)⟩ rfl rfl ⟨by decide, by decide⟩ ⟨by decide, by decide⟩ (k2 := 0) (n2 := 0) rfl rfl (Nat.le_of_ble_eq_true rfl) dX10_choose_151 (kIM (fun v38 s19 hS_s19 hF_s19 q39 => ?_))
                refine j_pop hx dX10_choose_154 rfl ?_
                refine j_aload_n hx 0 dX10_choose_155 rfl ?_
                refine j_iload_n hx 1 dX10_choose_156 rfl ?_
                refine j_iconst hx dX10_choose_157 ?_
                refine j_iadd hx (r := 10) dX10_choose_158 (by omega) ?_
                refine j_iload_n hx 2 dX10_choose_159 rfl ?_
                refine j_iconst hx dX10_choose_160 ?_
                refine j_iload_n hx 1 dX10_choose_161 rfl ?_
                refine j_ishl hx dX10_choose_162 (fun v40 f41 f42 => ?_)
                refine j_ior hx dX10_choose_163 (fun v43 f44 f45 => ?_)
                refine j_iload_n hx 3 dX10_choose_164 rfl ?_
                refine j_iconst hx dX10_choose_165 ?_
                refine j_isub hx (r := x3 - 1) dX10_choose_166 rfl ?_
                refine j_callV hx hG (c_X10_choose_10 hst a 10 v43 (x3 - 1)) lk_RX10_54 ha (by decide) rfl rfl rfl rfl [.int (zI 10), .int (zI v43), .int (zI (x3 - 1))] ⟨rfl, hG, hS_s19, ha, (by omega), (by omega), (by omega)⟩ rfl rfl ⟨by decide, by decide⟩ ⟨by decide, by decide⟩ (k2 := 0) (n2 := 0) rfl rfl (Nat.le_of_ble_eq_true rfl) dX10_choose_167 (kVM (fun s20 hS_s20 hF_s20 q47 => ?_))
                exact j_vret hx hq rfl (by decide) (by decide) dX10_choose_170 ⟨rfl, rfl, hS_s20, (zFr_t (zFr_t (zFr_t (zFr_t (zFr_t (zFr_t (zFr_t zFr_rf hF_s11 (by decide)) hF_s12 (by decide)) hF_s14 (by decide)) hF_s17 (by decide)) hF_s18 (by decide)) hF_s19 (by decide)) hF_s20 (by decide)), trivial⟩
        refine j_icmp_eq hx 101 dX10_choose_78 rfl (by omega) ⟨by decide, by decide⟩ (fun h48 => ?_) (fun h48 => ?_)
        · skip
          exact j_sub [4, 5, 6, 7, 3, 2, 1] [(0, .ref a), (1, .int (zI 9)), (2, .int (zI x2)), (3, .int (zI x3)), (4, .ref r1), (5, .ref r5), (6, .int (zI v20))] rfl (c101_13 s12 hS_s12 zFr_rf)
        · skip
          refine j_iload hx 0 dX10_choose_81 rfl ?_
          refine j_iconst hx dX10_choose_83 ?_
          refine j_icmp_eq hx 101 dX10_choose_84 rfl (by omega) ⟨by decide, by decide⟩ (fun h49 => ?_) (fun h49 => ?_)
          · skip
            exact j_sub [4, 5, 6, 7, 3, 2, 1] [(0, .ref a), (1, .int (zI 9)), (2, .int (zI x2)), (3, .int (zI x3)), (4, .ref r1), (5, .ref r5), (6, .int (zI v20))] rfl (c101_13 s12 hS_s12 zFr_rf)
          · skip
            refine j_aload hx 2 dX10_choose_87 rfl ?_
            refine j_iload hx 0 dX10_choose_89 rfl ?_
            refine j_iload hx 1 dX10_choose_91 rfl ?_
            refine j_aload_n hx 4 dX10_choose_93 rfl ?_
            have f50 := zf hS0 ha (k := 3) rfl
            refine g11_3 hx hG ha kf_RX10_45 (v := (s0 a 3)) (by rw [(zFr_g hF_s12 ha (by decide)), (zFr_g hF_s11 ha (by decide))]) dX10_choose_94 ?_
            refine j_callV hx hG (c_X0_win hst r5 v23 v20 ((s0 a 3))) lk_RX10_69 q6.1 (by decide) rfl rfl rfl rfl [.int (zI v23), .int (zI v20), .int (zI ((s0 a 3)))] ⟨rfl, hG, hS_s12, q6.1, (by omega), (by omega), (by omega)⟩ rfl rfl ⟨by decide, by decide⟩ ⟨by decide, by decide⟩ (k2 := 0) (n2 := 0) rfl rfl (Nat.le_of_ble_eq_true rfl) dX10_choose_97 (kIM (fun v51 s21 hS_s21 hF_s21 q52 => ?_))
            refine j_pop hx dX10_choose_100 rfl ?_
            exact j_sub [4, 5, 6, 7, 3, 2, 1] [(0, .ref a), (1, .int (zI 9)), (2, .int (zI x2)), (3, .int (zI x3)), (4, .ref r1), (5, .ref r5), (6, .int (zI v20))] rfl (c101_13 s21 hS_s21 (zFr_t zFr_rf hF_s21 (by decide)))
      · skip
        exact j_sub [2, 4, 1] [(0, .ref a), (2, .int (zI x2)), (4, .ref r1)] rfl (c35_6 s11 hS_s11 (zFr_t zFr_rf hF_s11 (by decide)))

set_option maxHeartbeats 4000000 in
set_option maxRecDepth 20000 in
theorem c_X10_choose_8 {E : zE} {l : Launch} (hst : l.stackTraces = false) (a : Nat) (x1 : Int) (x2 : Int) (x3 : Int) : Con E l yX10_choose cX10_choose 8 none { frames := 7, cells := 0, slots := 0, locals := 167 } (fun G s vs => vs = [.ref a, .int (zI x1), .int (zI x2), .int (zI x3)] ∧ zGK G ∧ zSK G s ∧ (gT G a = 11) ∧ (8 ≤ x1 ∧ x1 ≤ 8) ∧ ((-2147483648) ≤ x2 ∧ x2 ≤ 2147483647) ∧ (0 ≤ x3 ∧ x3 ≤ 4)) (fun G s _ => pV (fun G2 s2 => G2 = G ∧ zSK G s2 ∧ zFr [1, 7, 11, 41] G s s2 ∧ True)) := by
  refine Con.mk hst (by decide) (fun G s vs h => by rw [h.1]; exact Nat.le_of_ble_eq_true rfl) ?_
  rintro X G s0 vs ⟨rfl, hG, hS0, ha, hx1, hx2, hx3⟩ rfl hx hq
  obtain rfl : x1 = 8 := by omega
  show JJ X E 8 G s0 0 0 [(0, .ref a), (1, .int (zI 8)), (2, .int (zI x2)), (3, .int (zI x3))] 0 []
  refine j_aload_n hx 0 dX10_choose_0 rfl ?_
  refine j_iload_n hx 1 dX10_choose_1 rfl ?_
  refine j_callV hx hG (c_X10_boardAt hst a 8) lk_RX10_22 ha (by decide) rfl rfl rfl rfl [.int (zI 8)] ⟨rfl, hG, hS0, ha, (by omega)⟩ rfl rfl ⟨by decide, by decide⟩ ⟨by decide, by decide⟩ (k2 := 0) (n2 := 0) rfl rfl (Nat.le_of_ble_eq_true rfl) dX10_choose_2 (kNP (fun _ => ?_) (fun r1 q2 => ?_))
  · skip
    refine j_astoreN hx [(4, .null), (0, .ref a), (1, .int (zI 8)), (2, .int (zI x2)), (3, .int (zI x3))] dX10_choose_5 (by decide) rfl ?_
    refine j_aload_n hx 1 dX10_choose_7 rfl ?_
    refine j_iload_n hx 2 dX10_choose_8 rfl ?_
    refine j_iconst hx dX10_choose_9 ?_
    refine j_iadd hx (r := 9) dX10_choose_10 (by omega) ?_
    refine j_callV hx hG (c_X10_boardAt hst a 9) lk_RX10_22 ha (by decide) rfl rfl rfl rfl [.int (zI 9)] ⟨rfl, hG, hS0, ha, (by omega)⟩ rfl rfl ⟨by decide, by decide⟩ ⟨by decide, by decide⟩ (k2 := 0) (n2 := 0) rfl rfl (Nat.le_of_ble_eq_true rfl) dX10_choose_11 (kNP (fun _ => ?_) (fun r3 q4 => ?_))
    · skip
      refine j_astoreN hx [(5, .null), (4, .null), (0, .ref a), (1, .int (zI 8)), (2, .int (zI x2)), (3, .int (zI x3))] dX10_choose_14 (by decide) rfl ?_
      refine j_aloadN hx 1 dX10_choose_16 rfl ?_
      refine j_ifnonnullN hx dX10_choose_18 ?_
      exact j_vret hx hq rfl (by decide) (by decide) dX10_choose_21 ⟨rfl, rfl, hS0, zFr_rf, trivial⟩
    · skip
      refine j_astore hx [(5, .ref r3), (4, .null), (0, .ref a), (1, .int (zI 8)), (2, .int (zI x2)), (3, .int (zI x3))] dX10_choose_14 (by decide) rfl ?_
      refine j_aloadN hx 1 dX10_choose_16 rfl ?_
      refine j_ifnonnullN hx dX10_choose_18 ?_
      exact j_vret hx hq rfl (by decide) (by decide) dX10_choose_21 ⟨rfl, rfl, hS0, zFr_rf, trivial⟩
  · skip
    refine j_astore hx [(4, .ref r1), (0, .ref a), (1, .int (zI 8)), (2, .int (zI x2)), (3, .int (zI x3))] dX10_choose_5 (by decide) rfl ?_
    refine j_aload_n hx 1 dX10_choose_7 rfl ?_
    refine j_iload_n hx 2 dX10_choose_8 rfl ?_
    refine j_iconst hx dX10_choose_9 ?_
    refine j_iadd hx (r := 9) dX10_choose_10 (by omega) ?_
    refine j_callV hx hG (c_X10_boardAt hst a 9) lk_RX10_22 ha (by decide) rfl rfl rfl rfl [.int (zI 9)] ⟨rfl, hG, hS0, ha, (by omega)⟩ rfl rfl ⟨by decide, by decide⟩ ⟨by decide, by decide⟩ (k2 := 0) (n2 := 0) rfl rfl (Nat.le_of_ble_eq_true rfl) dX10_choose_11 (kNP (fun _ => ?_) (fun r5 q6 => ?_))
    · skip
      refine j_astoreN hx [(5, .null), (4, .ref r1), (0, .ref a), (1, .int (zI 8)), (2, .int (zI x2)), (3, .int (zI x3))] dX10_choose_14 (by decide) rfl ?_
      refine j_aload hx 1 dX10_choose_16 rfl ?_
      refine j_ifnonnull hx 22 dX10_choose_18 rfl ?_
      refine j_aloadN hx 0 dX10_choose_22 rfl ?_
      have c35_1 : ∀ (s2 : zS), (zSK G s2) → (zFr [1, 7, 41] G s0 s2) → JJ X E 8 G s2 0 0 [(0, .ref a), (2, .int (zI x2)), (4, .ref r1)] 35 [] := by
        intro s2 hS_s2 hF_s2
        refine j_aload_n hx 0 dX10_choose_35 rfl ?_
        refine j_aload hx 2 dX10_choose_36 rfl ?_
        refine j_aload_n hx 0 dX10_choose_38 rfl ?_
        have f7 := zf hS0 ha (k := 2) rfl
        refine g11_2 hx hG ha kf_RX10_41 (v := (s0 a 2)) (by rw [(zFr_g hF_s2 ha (by decide))]) dX10_choose_39 ?_
        refine j_callV hx hG (c_X0_cardsOf hst r1 ((s0 a 2))) lk_RX10_58 q2.1 (by decide) rfl rfl rfl rfl [.int (zI ((s0 a 2)))] ⟨rfl, hG, hS_s2, q2.1, (by omega)⟩ rfl rfl ⟨by decide, by decide⟩ ⟨by decide, by decide⟩ (k2 := 0) (n2 := 0) rfl rfl (Nat.le_of_ble_eq_true rfl) dX10_choose_42 (kIP (fun v8 q9 => ?_))
        refine j_iload_n hx 1 dX10_choose_45 rfl ?_
        refine j_callV hx hG (c_X10_keepBetter hst a v8 x2) lk_RX10_62 ha (by decide) rfl rfl rfl rfl [.int (zI v8), .int (zI x2)] ⟨rfl, hG, hS_s2, ha, (by omega), (by omega)⟩ rfl rfl ⟨by decide, by decide⟩ ⟨by decide, by decide⟩ (k2 := 0) (n2 := 0) rfl rfl (Nat.le_of_ble_eq_true rfl) dX10_choose_46 (kVM (fun s5 hS_s5 hF_s5 q11 => ?_))
        exact j_vret hx hq rfl (by decide) (by decide) dX10_choose_49 ⟨rfl, rfl, hS_s5, (zFr_t (zFr_t zFr_rf hF_s2 (by decide)) hF_s5 (by decide)), trivial⟩
      refine j_ifnullN hx 35 dX10_choose_24 rfl ?_
      exact j_sub [2, 4, 1] [(0, .ref a), (2, .int (zI x2)), (4, .ref r1)] rfl (c35_1 s0 hS0 zFr_rf)
    · skip
      refine j_astore hx [(5, .ref r5), (4, .ref r1), (0, .ref a), (1, .int (zI 8)), (2, .int (zI x2)), (3, .int (zI x3))] dX10_choose_14 (by decide) rfl ?_
      refine j_aload hx 1 dX10_choose_16 rfl ?_
      refine j_ifnonnull hx 22 dX10_choose_18 rfl ?_
      refine j_aload hx 0 dX10_choose_22 rfl ?_
      have c35_6 : ∀ (s7 : zS), (zSK G s7) → (zFr [1, 7, 41] G s0 s7) → JJ X E 8 G s7 0 0 [(0, .ref a), (2, .int (zI x2)), (4, .ref r1)] 35 [] := by
        intro s7 hS_s7 hF_s7
        refine j_aload_n hx 0 dX10_choose_35 rfl ?_
        refine j_aload hx 2 dX10_choose_36 rfl ?_
        refine j_aload_n hx 0 dX10_choose_38 rfl ?_
        have f12 := zf hS0 ha (k := 2) rfl
        refine g11_2 hx hG ha kf_RX10_41 (v := (s0 a 2)) (by rw [(zFr_g hF_s7 ha (by decide))]) dX10_choose_39 ?_
        refine j_callV hx hG (c_X0_cardsOf hst r1 ((s0 a 2))) lk_RX10_58 q2.1 (by decide) rfl rfl rfl rfl [.int (zI ((s0 a 2)))] ⟨rfl, hG, hS_s7, q2.1, (by omega)⟩ rfl rfl ⟨by decide, by decide⟩ ⟨by decide, by decide⟩ (k2 := 0) (n2 := 0) rfl rfl (Nat.le_of_ble_eq_true rfl) dX10_choose_42 (kIP (fun v13 q14 => ?_))
        refine j_iload_n hx 1 dX10_choose_45 rfl ?_
        refine j_callV hx hG (c_X10_keepBetter hst a v13 x2) lk_RX10_62 ha (by decide) rfl rfl rfl rfl [.int (zI v13), .int (zI x2)] ⟨rfl, hG, hS_s7, ha, (by omega), (by omega)⟩ rfl rfl ⟨by decide, by decide⟩ ⟨by decide, by decide⟩ (k2 := 0) (n2 := 0) rfl rfl (Nat.le_of_ble_eq_true rfl) dX10_choose_46 (kVM (fun s10 hS_s10 hF_s10 q16 => ?_))
        exact j_vret hx hq rfl (by decide) (by decide) dX10_choose_49 ⟨rfl, rfl, hS_s10, (zFr_t (zFr_t zFr_rf hF_s7 (by decide)) hF_s10 (by decide)), trivial⟩
      refine j_ifnull hx dX10_choose_24 ?_
      refine j_aload hx 1 dX10_choose_27 rfl ?_
      refine j_callV hx hG (c_X0_step hst r1) lk_RX10_33 q2.1 (by decide) rfl rfl rfl rfl [] ⟨rfl, hG, hS0, q2.1⟩ rfl rfl ⟨by decide, by decide⟩ ⟨by decide, by decide⟩ (k2 := 0) (n2 := 0) rfl rfl (Nat.le_of_ble_eq_true rfl) dX10_choose_29 (kIM (fun v17 s11 hS_s11 hF_s11 q18 => ?_))
      refine j_if_ne hx 50 dX10_choose_32 rfl (by omega) (fun h19 => ?_) (fun h19 => ?_)
      · skip
        refine j_aload hx 1 dX10_choose_50 rfl ?_
        refine j_callV hx hG (c_X0_likeTops hst r1) lk_RX10_37 q2.1 (by decide) rfl rfl rfl rfl [] ⟨rfl, hG, hS_s11, q2.1⟩ rfl rfl ⟨by decide, by decide⟩ ⟨by decide, by decide⟩ (k2 := 0) (n2 := 0) rfl rfl (Nat.le_of_ble_eq_true rfl) dX10_choose_52 (kIP (fun v20 q21 => ?_))
        refine j_istore hx [(6, .int (zI v20)), (5, .ref r5), (4, .ref r1), (0, .ref a), (1, .int (zI 8)), (2, .int (zI x2)), (3, .int (zI x3))] dX10_choose_55 (by decide) rfl ?_
        refine j_aload hx 2 dX10_choose_57 rfl ?_
        refine j_aload_n hx 3 dX10_choose_59 rfl ?_
        have f22 := zf hS0 ha (k := 2) rfl
        refine g11_2 hx hG ha kf_RX10_41 (v := (s0 a 2)) (by rw [(zFr_g hF_s11 ha (by decide))]) dX10_choose_60 ?_
        refine j_callV hx hG (c_X0_following hst r1 ((s0 a 2))) lk_RX10_66 q2.1 (by decide) rfl rfl rfl rfl [.int (zI ((s0 a 2)))] ⟨rfl, hG, hS_s11, q2.1, (by omega)⟩ rfl rfl ⟨by decide, by decide⟩ ⟨by decide, by decide⟩ (k2 := 0) (n2 := 0) rfl rfl (Nat.le_of_ble_eq_true rfl) dX10_choose_63 (kIP (fun v23 q24 => ?_))
        refine j_istore hx [(7, .int (zI v23)), (6, .int (zI v20)), (5, .ref r5), (4, .ref r1), (0, .ref a), (1, .int (zI 8)), (2, .int (zI x2)), (3, .int (zI x3))] dX10_choose_66 (by decide) rfl ?_
        refine j_aload hx 2 dX10_choose_68 rfl ?_
        refine j_aload hx 3 dX10_choose_70 rfl ?_
        refine j_callV hx hG (c_X0_become hst r5 r1) lk_RX10_26 q6.1 (by decide) rfl rfl rfl rfl [.ref r1] ⟨rfl, hG, hS_s11, q6.1, q2.1⟩ rfl rfl ⟨by decide, by decide⟩ ⟨by decide, by decide⟩ (k2 := 0) (n2 := 0) rfl rfl (Nat.le_of_ble_eq_true rfl) dX10_choose_72 (kVM (fun s12 hS_s12 hF_s12 q26 => ?_))
        refine j_iload hx 1 dX10_choose_75 rfl ?_
        refine j_iconst hx dX10_choose_77 ?_
        have c101_13 : ∀ (s14 : zS), (zSK G s14) → (zFr [7, 41] G s12 s14) → JJ X E 8 G s14 0 0 [(0, .ref a), (1, .int (zI 8)), (2, .int (zI x2)), (3, .int (zI x3)), (4, .ref r1), (5, .ref r5), (6, .int (zI v20))] 101 [] := by
          intro s14 hS_s14 hF_s14
          refine j_aload_n hx 0 dX10_choose_101 rfl ?_
          refine j_iload_n hx 1 dX10_choose_102 rfl ?_
          refine j_iconst hx dX10_choose_103 ?_
          refine j_iadd hx (r := 9) dX10_choose_104 (by omega) ?_
          refine j_iload_n hx 2 dX10_choose_105 rfl ?_
          refine j_iload_n hx 3 dX10_choose_106 rfl ?_
          refine j_callV hx hG (c_X10_choose_9 hst a 9 x2 x3) lk_RX10_54 ha (by decide) rfl rfl rfl rfl [.int (zI 9), .int (zI x2), .int (zI x3)] ⟨rfl, hG, hS_s14, ha, (by omega), (by omega), (by omega)⟩ rfl rfl ⟨by decide, by decide⟩ ⟨by decide, by decide⟩ (k2 := 0) (n2 := 0) rfl rfl (Nat.le_of_ble_eq_true rfl) dX10_choose_107 (kVM (fun s17 hS_s17 hF_s17 q28 => ?_))
          refine j_iload hx 6 dX10_choose_110 rfl ?_
          refine j_iconst hx dX10_choose_112 ?_
          refine j_icmp_eq hx 170 dX10_choose_113 rfl (by omega) ⟨by decide, by decide⟩ (fun h29 => ?_) (fun h29 => ?_)
          · skip
            exact j_vret hx hq rfl (by decide) (by decide) dX10_choose_170 ⟨rfl, rfl, hS_s17, (zFr_t (zFr_t (zFr_t (zFr_t zFr_rf hF_s11 (by decide)) hF_s12 (by decide)) hF_s14 (by decide)) hF_s17 (by decide)), trivial⟩
          · skip
            refine j_iload_n hx 3 dX10_choose_116 rfl ?_
            refine j_if_le hx 170 dX10_choose_117 rfl (by omega) (fun h30 => ?_) (fun h30 => ?_)
            · skip
              exact j_vret hx hq rfl (by decide) (by decide) dX10_choose_170 ⟨rfl, rfl, hS_s17, (zFr_t (zFr_t (zFr_t (zFr_t zFr_rf hF_s11 (by decide)) hF_s12 (by decide)) hF_s14 (by decide)) hF_s17 (by decide)), trivial⟩
            · skip
              refine j_aload hx 4 dX10_choose_120 rfl ?_
              refine j_aload_n hx 0 dX10_choose_122 rfl ?_
              have f31 := zf hS_s17 ha (k := 2) rfl
              refine g11_2 hx hG ha kf_RX10_41 rfl dX10_choose_123 ?_
              refine j_callV hx hG (c_X0_isOut hst r1 ((s17 a 2))) lk_RX10_73 q2.1 (by decide) rfl rfl rfl rfl [.int (zI ((s17 a 2)))] ⟨rfl, hG, hS_s17, q2.1, (by omega)⟩ rfl rfl ⟨by decide, by decide⟩ ⟨by decide, by decide⟩ (k2 := 0) (n2 := 0) rfl rfl (Nat.le_of_ble_eq_true rfl) dX10_choose_126 (kIP (fun v32 q33 => ?_))
              refine j_if_ne hx 170 dX10_choose_129 rfl (by omega) (fun h34 => ?_) (fun h34 => ?_)
              · skip
                exact j_vret hx hq rfl (by decide) (by decide) dX10_choose_170 ⟨rfl, rfl, hS_s17, (zFr_t (zFr_t (zFr_t (zFr_t zFr_rf hF_s11 (by decide)) hF_s12 (by decide)) hF_s14 (by decide)) hF_s17 (by decide)), trivial⟩
              · skip
                refine j_aload hx 5 dX10_choose_132 rfl ?_
                refine j_aload hx 4 dX10_choose_134 rfl ?_
                refine j_callV hx hG (c_X0_become hst r5 r1) lk_RX10_26 q6.1 (by decide) rfl rfl rfl rfl [.ref r1] ⟨rfl, hG, hS_s17, q6.1, q2.1⟩ rfl rfl ⟨by decide, by decide⟩ ⟨by decide, by decide⟩ (k2 := 0) (n2 := 0) rfl rfl (Nat.le_of_ble_eq_true rfl) dX10_choose_136 (kVM (fun s18 hS_s18 hF_s18 q36 => ?_))
                refine j_aload hx 5 dX10_choose_139 rfl ?_
                refine j_aload_n hx 0 dX10_choose_141 rfl ?_
                refine g11_2 hx hG ha kf_RX10_41 (v := (s17 a 2)) (by rw [(zFr_g hF_s18 ha (by decide))]) dX10_choose_142 ?_
                refine j_iload hx 6 dX10_choose_145 rfl ?_
                refine j_aload_n hx 0 dX10_choose_147 rfl ?_
                have f37 := zf hS_s17 ha (k := 3) rfl
                refine g11_3 hx hG ha kf_RX10_45 (v := (s17 a 3)) (by rw [(zFr_g hF_s18 ha (by decide))]) dX10_choose_148 ?_
                refine j_callV hx hG (c_X0_win hst r5 ((s17 a 2)) v20 ((s17 a 3))) lk_RX10_69 q6.1 (by decide) rfl rfl rfl rfl [.int (zI ((s17 a 2))), .int (zI v20), .int (zI ((s17 a 3)))] ⟨rfl, hG, hS_s18, q6.1, (by omega), (by omega), (by omega)⟩ rfl rfl ⟨by decide, by decide⟩ ⟨by decide, by decide⟩ (k2 := 0) (n2 := 0) rfl rfl (Nat.le_of_ble_eq_true rfl) dX10_choose_151 (kIM (fun v38 s19 hS_s19 hF_s19 q39 => ?_))
                refine j_pop hx dX10_choose_154 rfl ?_
                refine j_aload_n hx 0 dX10_choose_155 rfl ?_
                refine j_iload_n hx 1 dX10_choose_156 rfl ?_
                refine j_iconst hx dX10_choose_157 ?_
                refine j_iadd hx (r := 9) dX10_choose_158 (by omega) ?_
                refine j_iload_n hx 2 dX10_choose_159 rfl ?_
                refine j_iconst hx dX10_choose_160 ?_
                refine j_iload_n hx 1 dX10_choose_161 rfl ?_
                refine j_ishl hx dX10_choose_162 (fun v40 f41 f42 => ?_)
                refine j_ior hx dX10_choose_163 (fun v43 f44 f45 => ?_)
                refine j_iload_n hx 3 dX10_choose_164 rfl ?_
                refine j_iconst hx dX10_choose_165 ?_
                refine j_isub hx (r := x3 - 1) dX10_choose_166 rfl ?_
                refine j_callV hx hG (c_X10_choose_9 hst a 9 v43 (x3 - 1)) lk_RX10_54 ha (by decide) rfl rfl rfl rfl [.int (zI 9), .int (zI v43), .int (zI (x3 - 1))] ⟨rfl, hG, hS_s19, ha, (by omega), (by omega), (by omega)⟩ rfl rfl ⟨by decide, by decide⟩ ⟨by decide, by decide⟩ (k2 := 0) (n2 := 0) rfl rfl (Nat.le_of_ble_eq_true rfl) dX10_choose_167 (kVM (fun s20 hS_s20 hF_s20 q47 => ?_))
                exact j_vret hx hq rfl (by decide) (by decide) dX10_choose_170 ⟨rfl, rfl, hS_s20, (zFr_t (zFr_t (zFr_t (zFr_t (zFr_t (zFr_t (zFr_t zFr_rf hF_s11 (by decide)) hF_s12 (by decide)) hF_s14 (by decide)) hF_s17 (by decide)) hF_s18 (by decide)) hF_s19 (by decide)) hF_s20 (by decide)), trivial⟩
        refine j_icmp_eq hx 101 dX10_choose_78 rfl (by omega) ⟨by decide, by decide⟩ (fun h48 => ?_) (fun h48 => ?_)
        · skip
          exact j_sub [4, 5, 6, 7, 3, 2, 1] [(0, .ref a), (1, .int (zI 8)), (2, .int (zI x2)), (3, .int (zI x3)), (4, .ref r1), (5, .ref r5), (6, .int (zI v20))] rfl (c101_13 s12 hS_s12 zFr_rf)
        · skip
          refine j_iload hx 0 dX10_choose_81 rfl ?_
          refine j_iconst hx dX10_choose_83 ?_
          refine j_icmp_eq hx 101 dX10_choose_84 rfl (by omega) ⟨by decide, by decide⟩ (fun h49 => ?_) (fun h49 => ?_)
          · skip
            exact j_sub [4, 5, 6, 7, 3, 2, 1] [(0, .ref a), (1, .int (zI 8)), (2, .int (zI x2)), (3, .int (zI x3)), (4, .ref r1), (5, .ref r5), (6, .int (zI v20))] rfl (c101_13 s12 hS_s12 zFr_rf)
          · skip
            refine j_aload hx 2 dX10_choose_87 rfl ?_
            refine j_iload hx 0 dX10_choose_89 rfl ?_
            refine j_iload hx 1 dX10_choose_91 rfl ?_
            refine j_aload_n hx 4 dX10_choose_93 rfl ?_
            have f50 := zf hS0 ha (k := 3) rfl
            refine g11_3 hx hG ha kf_RX10_45 (v := (s0 a 3)) (by rw [(zFr_g hF_s12 ha (by decide)), (zFr_g hF_s11 ha (by decide))]) dX10_choose_94 ?_
            refine j_callV hx hG (c_X0_win hst r5 v23 v20 ((s0 a 3))) lk_RX10_69 q6.1 (by decide) rfl rfl rfl rfl [.int (zI v23), .int (zI v20), .int (zI ((s0 a 3)))] ⟨rfl, hG, hS_s12, q6.1, (by omega), (by omega), (by omega)⟩ rfl rfl ⟨by decide, by decide⟩ ⟨by decide, by decide⟩ (k2 := 0) (n2 := 0) rfl rfl (Nat.le_of_ble_eq_true rfl) dX10_choose_97 (kIM (fun v51 s21 hS_s21 hF_s21 q52 => ?_))
            refine j_pop hx dX10_choose_100 rfl ?_
            exact j_sub [4, 5, 6, 7, 3, 2, 1] [(0, .ref a), (1, .int (zI 8)), (2, .int (zI x2)), (3, .int (zI x3)), (4, .ref r1), (5, .ref r5), (6, .int (zI v20))] rfl (c101_13 s21 hS_s21 (zFr_t zFr_rf hF_s21 (by decide)))
      · skip
        exact j_sub [2, 4, 1] [(0, .ref a), (2, .int (zI x2)), (4, .ref r1)] rfl (c35_6 s11 hS_s11 (zFr_t zFr_rf hF_s11 (by decide)))

set_option maxHeartbeats 4000000 in
set_option maxRecDepth 20000 in
theorem c_X10_choose_7 {E : zE} {l : Launch} (hst : l.stackTraces = false) (a : Nat) (x1 : Int) (x2 : Int) (x3 : Int) : Con E l yX10_choose cX10_choose 8 none { frames := 8, cells := 0, slots := 0, locals := 194 } (fun G s vs => vs = [.ref a, .int (zI x1), .int (zI x2), .int (zI x3)] ∧ zGK G ∧ zSK G s ∧ (gT G a = 11) ∧ (7 ≤ x1 ∧ x1 ≤ 7) ∧ ((-2147483648) ≤ x2 ∧ x2 ≤ 2147483647) ∧ (0 ≤ x3 ∧ x3 ≤ 4)) (fun G s _ => pV (fun G2 s2 => G2 = G ∧ zSK G s2 ∧ zFr [1, 7, 11, 41] G s s2 ∧ True)) := by
  refine Con.mk hst (by decide) (fun G s vs h => by rw [h.1]; exact Nat.le_of_ble_eq_true rfl) ?_
  rintro X G s0 vs ⟨rfl, hG, hS0, ha, hx1, hx2, hx3⟩ rfl hx hq
  obtain rfl : x1 = 7 := by omega
  show JJ X E 8 G s0 0 0 [(0, .ref a), (1, .int (zI 7)), (2, .int (zI x2)), (3, .int (zI x3))] 0 []
  refine j_aload_n hx 0 dX10_choose_0 rfl ?_
  refine j_iload_n hx 1 dX10_choose_1 rfl ?_
  refine j_callV hx hG (c_X10_boardAt hst a 7) lk_RX10_22 ha (by decide) rfl rfl rfl rfl [.int (zI 7)] ⟨rfl, hG, hS0, ha, (by omega)⟩ rfl rfl ⟨by decide, by decide⟩ ⟨by decide, by decide⟩ (k2 := 0) (n2 := 0) rfl rfl (Nat.le_of_ble_eq_true rfl) dX10_choose_2 (kNP (fun _ => ?_) (fun r1 q2 => ?_))
  · skip
    refine j_astoreN hx [(4, .null), (0, .ref a), (1, .int (zI 7)), (2, .int (zI x2)), (3, .int (zI x3))] dX10_choose_5 (by decide) rfl ?_
    refine j_aload_n hx 1 dX10_choose_7 rfl ?_
    refine j_iload_n hx 2 dX10_choose_8 rfl ?_
    refine j_iconst hx dX10_choose_9 ?_
    refine j_iadd hx (r := 8) dX10_choose_10 (by omega) ?_
    refine j_callV hx hG (c_X10_boardAt hst a 8) lk_RX10_22 ha (by decide) rfl rfl rfl rfl [.int (zI 8)] ⟨rfl, hG, hS0, ha, (by omega)⟩ rfl rfl ⟨by decide, by decide⟩ ⟨by decide, by decide⟩ (k2 := 0) (n2 := 0) rfl rfl (Nat.le_of_ble_eq_true rfl) dX10_choose_11 (kNP (fun _ => ?_) (fun r3 q4 => ?_))
    · skip
      refine j_astoreN hx [(5, .null), (4, .null), (0, .ref a), (1, .int (zI 7)), (2, .int (zI x2)), (3, .int (zI x3))] dX10_choose_14 (by decide) rfl ?_
      refine j_aloadN hx 1 dX10_choose_16 rfl ?_
      refine j_ifnonnullN hx dX10_choose_18 ?_
      exact j_vret hx hq rfl (by decide) (by decide) dX10_choose_21 ⟨rfl, rfl, hS0, zFr_rf, trivial⟩
    · skip
      refine j_astore hx [(5, .ref r3), (4, .null), (0, .ref a), (1, .int (zI 7)), (2, .int (zI x2)), (3, .int (zI x3))] dX10_choose_14 (by decide) rfl ?_
      refine j_aloadN hx 1 dX10_choose_16 rfl ?_
      refine j_ifnonnullN hx dX10_choose_18 ?_
      exact j_vret hx hq rfl (by decide) (by decide) dX10_choose_21 ⟨rfl, rfl, hS0, zFr_rf, trivial⟩
  · skip
    refine j_astore hx [(4, .ref r1), (0, .ref a), (1, .int (zI 7)), (2, .int (zI x2)), (3, .int (zI x3))] dX10_choose_5 (by decide) rfl ?_
    refine j_aload_n hx 1 dX10_choose_7 rfl ?_
    refine j_iload_n hx 2 dX10_choose_8 rfl ?_
    refine j_iconst hx dX10_choose_9 ?_
    refine j_iadd hx (r := 8) dX10_choose_10 (by omega) ?_
    refine j_callV hx hG (c_X10_boardAt hst a 8) lk_RX10_22 ha (by decide) rfl rfl rfl rfl [.int (zI 8)] ⟨rfl, hG, hS0, ha, (by omega)⟩ rfl rfl ⟨by decide, by decide⟩ ⟨by decide, by decide⟩ (k2 := 0) (n2 := 0) rfl rfl (Nat.le_of_ble_eq_true rfl) dX10_choose_11 (kNP (fun _ => ?_) (fun r5 q6 => ?_))
    · skip
      refine j_astoreN hx [(5, .null), (4, .ref r1), (0, .ref a), (1, .int (zI 7)), (2, .int (zI x2)), (3, .int (zI x3))] dX10_choose_14 (by decide) rfl ?_
      refine j_aload hx 1 dX10_choose_16 rfl ?_
      refine j_ifnonnull hx 22 dX10_choose_18 rfl ?_
      refine j_aloadN hx 0 dX10_choose_22 rfl ?_
      have c35_1 : ∀ (s2 : zS), (zSK G s2) → (zFr [1, 7, 41] G s0 s2) → JJ X E 8 G s2 0 0 [(0, .ref a), (2, .int (zI x2)), (4, .ref r1)] 35 [] := by
        intro s2 hS_s2 hF_s2
        refine j_aload_n hx 0 dX10_choose_35 rfl ?_
        refine j_aload hx 2 dX10_choose_36 rfl ?_
        refine j_aload_n hx 0 dX10_choose_38 rfl ?_
        have f7 := zf hS0 ha (k := 2) rfl
        refine g11_2 hx hG ha kf_RX10_41 (v := (s0 a 2)) (by rw [(zFr_g hF_s2 ha (by decide))]) dX10_choose_39 ?_
        refine j_callV hx hG (c_X0_cardsOf hst r1 ((s0 a 2))) lk_RX10_58 q2.1 (by decide) rfl rfl rfl rfl [.int (zI ((s0 a 2)))] ⟨rfl, hG, hS_s2, q2.1, (by omega)⟩ rfl rfl ⟨by decide, by decide⟩ ⟨by decide, by decide⟩ (k2 := 0) (n2 := 0) rfl rfl (Nat.le_of_ble_eq_true rfl) dX10_choose_42 (kIP (fun v8 q9 => ?_))
        refine j_iload_n hx 1 dX10_choose_45 rfl ?_
        refine j_callV hx hG (c_X10_keepBetter hst a v8 x2) lk_RX10_62 ha (by decide) rfl rfl rfl rfl [.int (zI v8), .int (zI x2)] ⟨rfl, hG, hS_s2, ha, (by omega), (by omega)⟩ rfl rfl ⟨by decide, by decide⟩ ⟨by decide, by decide⟩ (k2 := 0) (n2 := 0) rfl rfl (Nat.le_of_ble_eq_true rfl) dX10_choose_46 (kVM (fun s5 hS_s5 hF_s5 q11 => ?_))
        exact j_vret hx hq rfl (by decide) (by decide) dX10_choose_49 ⟨rfl, rfl, hS_s5, (zFr_t (zFr_t zFr_rf hF_s2 (by decide)) hF_s5 (by decide)), trivial⟩
      refine j_ifnullN hx 35 dX10_choose_24 rfl ?_
      exact j_sub [2, 4, 1] [(0, .ref a), (2, .int (zI x2)), (4, .ref r1)] rfl (c35_1 s0 hS0 zFr_rf)
    · skip
      refine j_astore hx [(5, .ref r5), (4, .ref r1), (0, .ref a), (1, .int (zI 7)), (2, .int (zI x2)), (3, .int (zI x3))] dX10_choose_14 (by decide) rfl ?_
      refine j_aload hx 1 dX10_choose_16 rfl ?_
      refine j_ifnonnull hx 22 dX10_choose_18 rfl ?_
      refine j_aload hx 0 dX10_choose_22 rfl ?_
      have c35_6 : ∀ (s7 : zS), (zSK G s7) → (zFr [1, 7, 41] G s0 s7) → JJ X E 8 G s7 0 0 [(0, .ref a), (2, .int (zI x2)), (4, .ref r1)] 35 [] := by
        intro s7 hS_s7 hF_s7
        refine j_aload_n hx 0 dX10_choose_35 rfl ?_
        refine j_aload hx 2 dX10_choose_36 rfl ?_
        refine j_aload_n hx 0 dX10_choose_38 rfl ?_
        have f12 := zf hS0 ha (k := 2) rfl
        refine g11_2 hx hG ha kf_RX10_41 (v := (s0 a 2)) (by rw [(zFr_g hF_s7 ha (by decide))]) dX10_choose_39 ?_
        refine j_callV hx hG (c_X0_cardsOf hst r1 ((s0 a 2))) lk_RX10_58 q2.1 (by decide) rfl rfl rfl rfl [.int (zI ((s0 a 2)))] ⟨rfl, hG, hS_s7, q2.1, (by omega)⟩ rfl rfl ⟨by decide, by decide⟩ ⟨by decide, by decide⟩ (k2 := 0) (n2 := 0) rfl rfl (Nat.le_of_ble_eq_true rfl) dX10_choose_42 (kIP (fun v13 q14 => ?_))
        refine j_iload_n hx 1 dX10_choose_45 rfl ?_
        refine j_callV hx hG (c_X10_keepBetter hst a v13 x2) lk_RX10_62 ha (by decide) rfl rfl rfl rfl [.int (zI v13), .int (zI x2)] ⟨rfl, hG, hS_s7, ha, (by omega), (by omega)⟩ rfl rfl ⟨by decide, by decide⟩ ⟨by decide, by decide⟩ (k2 := 0) (n2 := 0) rfl rfl (Nat.le_of_ble_eq_true rfl) dX10_choose_46 (kVM (fun s10 hS_s10 hF_s10 q16 => ?_))
        exact j_vret hx hq rfl (by decide) (by decide) dX10_choose_49 ⟨rfl, rfl, hS_s10, (zFr_t (zFr_t zFr_rf hF_s7 (by decide)) hF_s10 (by decide)), trivial⟩
      refine j_ifnull hx dX10_choose_24 ?_
      refine j_aload hx 1 dX10_choose_27 rfl ?_
      refine j_callV hx hG (c_X0_step hst r1) lk_RX10_33 q2.1 (by decide) rfl rfl rfl rfl [] ⟨rfl, hG, hS0, q2.1⟩ rfl rfl ⟨by decide, by decide⟩ ⟨by decide, by decide⟩ (k2 := 0) (n2 := 0) rfl rfl (Nat.le_of_ble_eq_true rfl) dX10_choose_29 (kIM (fun v17 s11 hS_s11 hF_s11 q18 => ?_))
      refine j_if_ne hx 50 dX10_choose_32 rfl (by omega) (fun h19 => ?_) (fun h19 => ?_)
      · skip
        refine j_aload hx 1 dX10_choose_50 rfl ?_
        refine j_callV hx hG (c_X0_likeTops hst r1) lk_RX10_37 q2.1 (by decide) rfl rfl rfl rfl [] ⟨rfl, hG, hS_s11, q2.1⟩ rfl rfl ⟨by decide, by decide⟩ ⟨by decide, by decide⟩ (k2 := 0) (n2 := 0) rfl rfl (Nat.le_of_ble_eq_true rfl) dX10_choose_52 (kIP (fun v20 q21 => ?_))
        refine j_istore hx [(6, .int (zI v20)), (5, .ref r5), (4, .ref r1), (0, .ref a), (1, .int (zI 7)), (2, .int (zI x2)), (3, .int (zI x3))] dX10_choose_55 (by decide) rfl ?_
        refine j_aload hx 2 dX10_choose_57 rfl ?_
        refine j_aload_n hx 3 dX10_choose_59 rfl ?_
        have f22 := zf hS0 ha (k := 2) rfl
        refine g11_2 hx hG ha kf_RX10_41 (v := (s0 a 2)) (by rw [(zFr_g hF_s11 ha (by decide))]) dX10_choose_60 ?_
        refine j_callV hx hG (c_X0_following hst r1 ((s0 a 2))) lk_RX10_66 q2.1 (by decide) rfl rfl rfl rfl [.int (zI ((s0 a 2)))] ⟨rfl, hG, hS_s11, q2.1, (by omega)⟩ rfl rfl ⟨by decide, by decide⟩ ⟨by decide, by decide⟩ (k2 := 0) (n2 := 0) rfl rfl (Nat.le_of_ble_eq_true rfl) dX10_choose_63 (kIP (fun v23 q24 => ?_))
        refine j_istore hx [(7, .int (zI v23)), (6, .int (zI v20)), (5, .ref r5), (4, .ref r1), (0, .ref a), (1, .int (zI 7)), (2, .int (zI x2)), (3, .int (zI x3))] dX10_choose_66 (by decide) rfl ?_
        refine j_aload hx 2 dX10_choose_68 rfl ?_
        refine j_aload hx 3 dX10_choose_70 rfl ?_
        refine j_callV hx hG (c_X0_become hst r5 r1) lk_RX10_26 q6.1 (by decide) rfl rfl rfl rfl [.ref r1] ⟨rfl, hG, hS_s11, q6.1, q2.1⟩ rfl rfl ⟨by decide, by decide⟩ ⟨by decide, by decide⟩ (k2 := 0) (n2 := 0) rfl rfl (Nat.le_of_ble_eq_true rfl) dX10_choose_72 (kVM (fun s12 hS_s12 hF_s12 q26 => ?_))
        refine j_iload hx 1 dX10_choose_75 rfl ?_
        refine j_iconst hx dX10_choose_77 ?_
        have c101_13 : ∀ (s14 : zS), (zSK G s14) → (zFr [7, 41] G s12 s14) → JJ X E 8 G s14 0 0 [(0, .ref a), (1, .int (zI 7)), (2, .int (zI x2)), (3, .int (zI x3)), (4, .ref r1), (5, .ref r5), (6, .int (zI v20))] 101 [] := by
          intro s14 hS_s14 hF_s14
          refine j_aload_n hx 0 dX10_choose_101 rfl ?_
          refine j_iload_n hx 1 dX10_choose_102 rfl ?_
          refine j_iconst hx dX10_choose_103 ?_
          refine j_iadd hx (r := 8) dX10_choose_104 (by omega) ?_
          refine j_iload_n hx 2 dX10_choose_105 rfl ?_
          refine j_iload_n hx 3 dX10_choose_106 rfl ?_
          refine j_callV hx hG (c_X10_choose_8 hst a 8 x2 x3) lk_RX10_54 ha (by decide) rfl rfl rfl rfl [.int (zI 8), .int (zI x2), .int (zI x3)] ⟨rfl, hG, hS_s14, ha, (by omega), (by omega), (by omega)⟩ rfl rfl ⟨by decide, by decide⟩ ⟨by decide, by decide⟩ (k2 := 0) (n2 := 0) rfl rfl (Nat.le_of_ble_eq_true rfl) dX10_choose_107 (kVM (fun s17 hS_s17 hF_s17 q28 => ?_))
          refine j_iload hx 6 dX10_choose_110 rfl ?_
          refine j_iconst hx dX10_choose_112 ?_
          refine j_icmp_eq hx 170 dX10_choose_113 rfl (by omega) ⟨by decide, by decide⟩ (fun h29 => ?_) (fun h29 => ?_)
          · skip
            exact j_vret hx hq rfl (by decide) (by decide) dX10_choose_170 ⟨rfl, rfl, hS_s17, (zFr_t (zFr_t (zFr_t (zFr_t zFr_rf hF_s11 (by decide)) hF_s12 (by decide)) hF_s14 (by decide)) hF_s17 (by decide)), trivial⟩
          · skip
            refine j_iload_n hx 3 dX10_choose_116 rfl ?_
            refine j_if_le hx 170 dX10_choose_117 rfl (by omega) (fun h30 => ?_) (fun h30 => ?_)
            · skip
              exact j_vret hx hq rfl (by decide) (by decide) dX10_choose_170 ⟨rfl, rfl, hS_s17, (zFr_t (zFr_t (zFr_t (zFr_t zFr_rf hF_s11 (by decide)) hF_s12 (by decide)) hF_s14 (by decide)) hF_s17 (by decide)), trivial⟩
            · skip
              refine j_aload hx 4 dX10_choose_120 rfl ?_
              refine j_aload_n hx 0 dX10_choose_122 rfl ?_
              have f31 := zf hS_s17 ha (k := 2) rfl
              refine g11_2 hx hG ha kf_RX10_41 rfl dX10_choose_123 ?_
              refine j_callV hx hG (c_X0_isOut hst r1 ((s17 a 2))) lk_RX10_73 q2.1 (by decide) rfl rfl rfl rfl [.int (zI ((s17 a 2)))] ⟨rfl, hG, hS_s17, q2.1, (by omega)⟩ rfl rfl ⟨by decide, by decide⟩ ⟨by decide, by decide⟩ (k2 := 0) (n2 := 0) rfl rfl (Nat.le_of_ble_eq_true rfl) dX10_choose_126 (kIP (fun v32 q33 => ?_))
              refine j_if_ne hx 170 dX10_choose_129 rfl (by omega) (fun h34 => ?_) (fun h34 => ?_)
              · skip
                exact j_vret hx hq rfl (by decide) (by decide) dX10_choose_170 ⟨rfl, rfl, hS_s17, (zFr_t (zFr_t (zFr_t (zFr_t zFr_rf hF_s11 (by decide)) hF_s12 (by decide)) hF_s14 (by decide)) hF_s17 (by decide)), trivial⟩
              · skip
                refine j_aload hx 5 dX10_choose_132 rfl ?_
                refine j_aload hx 4 dX10_choose_134 rfl ?_
                refine j_callV hx hG (c_X0_become hst r5 r1) lk_RX10_26 q6.1 (by decide) rfl rfl rfl rfl [.ref r1] ⟨rfl, hG, hS_s17, q6.1, q2.1⟩ rfl rfl ⟨by decide, by decide⟩ ⟨by decide, by decide⟩ (k2 := 0) (n2 := 0) rfl rfl (Nat.le_of_ble_eq_true rfl) dX10_choose_136 (kVM (fun s18 hS_s18 hF_s18 q36 => ?_))
                refine j_aload hx 5 dX10_choose_139 rfl ?_
                refine j_aload_n hx 0 dX10_choose_141 rfl ?_
                refine g11_2 hx hG ha kf_RX10_41 (v := (s17 a 2)) (by rw [(zFr_g hF_s18 ha (by decide))]) dX10_choose_142 ?_
                refine j_iload hx 6 dX10_choose_145 rfl ?_
                refine j_aload_n hx 0 dX10_choose_147 rfl ?_
                have f37 := zf hS_s17 ha (k := 3) rfl
                refine g11_3 hx hG ha kf_RX10_45 (v := (s17 a 3)) (by rw [(zFr_g hF_s18 ha (by decide))]) dX10_choose_148 ?_
                refine j_callV hx hG (c_X0_win hst r5 ((s17 a 2)) v20 ((s17 a 3))) lk_RX10_69 q6.1 (by decide) rfl rfl rfl rfl [.int (zI ((s17 a 2))), .int (zI v20), .int (zI ((s17 a 3)))] ⟨rfl, hG, hS_s18, q6.1, (by omega), (by omega), (by omega)⟩ rfl rfl ⟨by decide, by decide⟩ ⟨by decide, by decide⟩ (k2 := 0) (n2 := 0) rfl rfl (Nat.le_of_ble_eq_true rfl) dX10_choose_151 (kIM (fun v38 s19 hS_s19 hF_s19 q39 => ?_))
                refine j_pop hx dX10_choose_154 rfl ?_
                refine j_aload_n hx 0 dX10_choose_155 rfl ?_
                refine j_iload_n hx 1 dX10_choose_156 rfl ?_
                refine j_iconst hx dX10_choose_157 ?_
                refine j_iadd hx (r := 8) dX10_choose_158 (by omega) ?_
                refine j_iload_n hx 2 dX10_choose_159 rfl ?_
                refine j_iconst hx dX10_choose_160 ?_
                refine j_iload_n hx 1 dX10_choose_161 rfl ?_
                refine j_ishl hx dX10_choose_162 (fun v40 f41 f42 => ?_)
                refine j_ior hx dX10_choose_163 (fun v43 f44 f45 => ?_)
                refine j_iload_n hx 3 dX10_choose_164 rfl ?_
                refine j_iconst hx dX10_choose_165 ?_
                refine j_isub hx (r := x3 - 1) dX10_choose_166 rfl ?_
                refine j_callV hx hG (c_X10_choose_8 hst a 8 v43 (x3 - 1)) lk_RX10_54 ha (by decide) rfl rfl rfl rfl [.int (zI 8), .int (zI v43), .int (zI (x3 - 1))] ⟨rfl, hG, hS_s19, ha, (by omega), (by omega), (by omega)⟩ rfl rfl ⟨by decide, by decide⟩ ⟨by decide, by decide⟩ (k2 := 0) (n2 := 0) rfl rfl (Nat.le_of_ble_eq_true rfl) dX10_choose_167 (kVM (fun s20 hS_s20 hF_s20 q47 => ?_))
                exact j_vret hx hq rfl (by decide) (by decide) dX10_choose_170 ⟨rfl, rfl, hS_s20, (zFr_t (zFr_t (zFr_t (zFr_t (zFr_t (zFr_t (zFr_t zFr_rf hF_s11 (by decide)) hF_s12 (by decide)) hF_s14 (by decide)) hF_s17 (by decide)) hF_s18 (by decide)) hF_s19 (by decide)) hF_s20 (by decide)), trivial⟩
        refine j_icmp_eq hx 101 dX10_choose_78 rfl (by omega) ⟨by decide, by decide⟩ (fun h48 => ?_) (fun h48 => ?_)
        · skip
          exact j_sub [4, 5, 6, 7, 3, 2, 1] [(0, .ref a), (1, .int (zI 7)), (2, .int (zI x2)), (3, .int (zI x3)), (4, .ref r1), (5, .ref r5), (6, .int (zI v20))] rfl (c101_13 s12 hS_s12 zFr_rf)
        · skip
          refine j_iload hx 0 dX10_choose_81 rfl ?_
          refine j_iconst hx dX10_choose_83 ?_
          refine j_icmp_eq hx 101 dX10_choose_84 rfl (by omega) ⟨by decide, by decide⟩ (fun h49 => ?_) (fun h49 => ?_)
          · skip
            exact j_sub [4, 5, 6, 7, 3, 2, 1] [(0, .ref a), (1, .int (zI 7)), (2, .int (zI x2)), (3, .int (zI x3)), (4, .ref r1), (5, .ref r5), (6, .int (zI v20))] rfl (c101_13 s12 hS_s12 zFr_rf)
          · skip
            refine j_aload hx 2 dX10_choose_87 rfl ?_
            refine j_iload hx 0 dX10_choose_89 rfl ?_
            refine j_iload hx 1 dX10_choose_91 rfl ?_
            refine j_aload_n hx 4 dX10_choose_93 rfl ?_
            have f50 := zf hS0 ha (k := 3) rfl
            refine g11_3 hx hG ha kf_RX10_45 (v := (s0 a 3)) (by rw [(zFr_g hF_s12 ha (by decide)), (zFr_g hF_s11 ha (by decide))]) dX10_choose_94 ?_
            refine j_callV hx hG (c_X0_win hst r5 v23 v20 ((s0 a 3))) lk_RX10_69 q6.1 (by decide) rfl rfl rfl rfl [.int (zI v23), .int (zI v20), .int (zI ((s0 a 3)))] ⟨rfl, hG, hS_s12, q6.1, (by omega), (by omega), (by omega)⟩ rfl rfl ⟨by decide, by decide⟩ ⟨by decide, by decide⟩ (k2 := 0) (n2 := 0) rfl rfl (Nat.le_of_ble_eq_true rfl) dX10_choose_97 (kIM (fun v51 s21 hS_s21 hF_s21 q52 => ?_))
            refine j_pop hx dX10_choose_100 rfl ?_
            exact j_sub [4, 5, 6, 7, 3, 2, 1] [(0, .ref a), (1, .int (zI 7)), (2, .int (zI x2)), (3, .int (zI x3)), (4, .ref r1), (5, .ref r5), (6, .int (zI v20))] rfl (c101_13 s21 hS_s21 (zFr_t zFr_rf hF_s21 (by decide)))
      · skip
        exact j_sub [2, 4, 1] [(0, .ref a), (2, .int (zI x2)), (4, .ref r1)] rfl (c35_6 s11 hS_s11 (zFr_t zFr_rf hF_s11 (by decide)))

set_option maxHeartbeats 4000000 in
set_option maxRecDepth 20000 in
theorem c_X10_choose_6 {E : zE} {l : Launch} (hst : l.stackTraces = false) (a : Nat) (x1 : Int) (x2 : Int) (x3 : Int) : Con E l yX10_choose cX10_choose 8 none { frames := 9, cells := 0, slots := 0, locals := 221 } (fun G s vs => vs = [.ref a, .int (zI x1), .int (zI x2), .int (zI x3)] ∧ zGK G ∧ zSK G s ∧ (gT G a = 11) ∧ (6 ≤ x1 ∧ x1 ≤ 6) ∧ ((-2147483648) ≤ x2 ∧ x2 ≤ 2147483647) ∧ (0 ≤ x3 ∧ x3 ≤ 4)) (fun G s _ => pV (fun G2 s2 => G2 = G ∧ zSK G s2 ∧ zFr [1, 7, 11, 41] G s s2 ∧ True)) := by
  refine Con.mk hst (by decide) (fun G s vs h => by rw [h.1]; exact Nat.le_of_ble_eq_true rfl) ?_
  rintro X G s0 vs ⟨rfl, hG, hS0, ha, hx1, hx2, hx3⟩ rfl hx hq
  obtain rfl : x1 = 6 := by omega
  show JJ X E 8 G s0 0 0 [(0, .ref a), (1, .int (zI 6)), (2, .int (zI x2)), (3, .int (zI x3))] 0 []
  refine j_aload_n hx 0 dX10_choose_0 rfl ?_
  refine j_iload_n hx 1 dX10_choose_1 rfl ?_
  refine j_callV hx hG (c_X10_boardAt hst a 6) lk_RX10_22 ha (by decide) rfl rfl rfl rfl [.int (zI 6)] ⟨rfl, hG, hS0, ha, (by omega)⟩ rfl rfl ⟨by decide, by decide⟩ ⟨by decide, by decide⟩ (k2 := 0) (n2 := 0) rfl rfl (Nat.le_of_ble_eq_true rfl) dX10_choose_2 (kNP (fun _ => ?_) (fun r1 q2 => ?_))
  · skip
    refine j_astoreN hx [(4, .null), (0, .ref a), (1, .int (zI 6)), (2, .int (zI x2)), (3, .int (zI x3))] dX10_choose_5 (by decide) rfl ?_
    refine j_aload_n hx 1 dX10_choose_7 rfl ?_
    refine j_iload_n hx 2 dX10_choose_8 rfl ?_
    refine j_iconst hx dX10_choose_9 ?_
    refine j_iadd hx (r := 7) dX10_choose_10 (by omega) ?_
    refine j_callV hx hG (c_X10_boardAt hst a 7) lk_RX10_22 ha (by decide) rfl rfl rfl rfl [.int (zI 7)] ⟨rfl, hG, hS0, ha, (by omega)⟩ rfl rfl ⟨by decide, by decide⟩ ⟨by decide, by decide⟩ (k2 := 0) (n2 := 0) rfl rfl (Nat.le_of_ble_eq_true rfl) dX10_choose_11 (kNP (fun _ => ?_) (fun r3 q4 => ?_))
    · skip
      refine j_astoreN hx [(5, .null), (4, .null), (0, .ref a), (1, .int (zI 6)), (2, .int (zI x2)), (3, .int (zI x3))] dX10_choose_14 (by decide) rfl ?_
      refine j_aloadN hx 1 dX10_choose_16 rfl ?_
      refine j_ifnonnullN hx dX10_choose_18 ?_
      exact j_vret hx hq rfl (by decide) (by decide) dX10_choose_21 ⟨rfl, rfl, hS0, zFr_rf, trivial⟩
    · skip
      refine j_astore hx [(5, .ref r3), (4, .null), (0, .ref a), (1, .int (zI 6)), (2, .int (zI x2)), (3, .int (zI x3))] dX10_choose_14 (by decide) rfl ?_
      refine j_aloadN hx 1 dX10_choose_16 rfl ?_
      refine j_ifnonnullN hx dX10_choose_18 ?_
      exact j_vret hx hq rfl (by decide) (by decide) dX10_choose_21 ⟨rfl, rfl, hS0, zFr_rf, trivial⟩
  · skip
    refine j_astore hx [(4, .ref r1), (0, .ref a), (1, .int (zI 6)), (2, .int (zI x2)), (3, .int (zI x3))] dX10_choose_5 (by decide) rfl ?_
    refine j_aload_n hx 1 dX10_choose_7 rfl ?_
    refine j_iload_n hx 2 dX10_choose_8 rfl ?_
    refine j_iconst hx dX10_choose_9 ?_
    refine j_iadd hx (r := 7) dX10_choose_10 (by omega) ?_
    refine j_callV hx hG (c_X10_boardAt hst a 7) lk_RX10_22 ha (by decide) rfl rfl rfl rfl [.int (zI 7)] ⟨rfl, hG, hS0, ha, (by omega)⟩ rfl rfl ⟨by decide, by decide⟩ ⟨by decide, by decide⟩ (k2 := 0) (n2 := 0) rfl rfl (Nat.le_of_ble_eq_true rfl) dX10_choose_11 (kNP (fun _ => ?_) (fun r5 q6 => ?_))
    · skip
      refine j_astoreN hx [(5, .null), (4, .ref r1), (0, .ref a), (1, .int (zI 6)), (2, .int (zI x2)), (3, .int (zI x3))] dX10_choose_14 (by decide) rfl ?_
      refine j_aload hx 1 dX10_choose_16 rfl ?_
      refine j_ifnonnull hx 22 dX10_choose_18 rfl ?_
      refine j_aloadN hx 0 dX10_choose_22 rfl ?_
      have c35_1 : ∀ (s2 : zS), (zSK G s2) → (zFr [1, 7, 41] G s0 s2) → JJ X E 8 G s2 0 0 [(0, .ref a), (2, .int (zI x2)), (4, .ref r1)] 35 [] := by
        intro s2 hS_s2 hF_s2
        refine j_aload_n hx 0 dX10_choose_35 rfl ?_
        refine j_aload hx 2 dX10_choose_36 rfl ?_
        refine j_aload_n hx 0 dX10_choose_38 rfl ?_
        have f7 := zf hS0 ha (k := 2) rfl
        refine g11_2 hx hG ha kf_RX10_41 (v := (s0 a 2)) (by rw [(zFr_g hF_s2 ha (by decide))]) dX10_choose_39 ?_
        refine j_callV hx hG (c_X0_cardsOf hst r1 ((s0 a 2))) lk_RX10_58 q2.1 (by decide) rfl rfl rfl rfl [.int (zI ((s0 a 2)))] ⟨rfl, hG, hS_s2, q2.1, (by omega)⟩ rfl rfl ⟨by decide, by decide⟩ ⟨by decide, by decide⟩ (k2 := 0) (n2 := 0) rfl rfl (Nat.le_of_ble_eq_true rfl) dX10_choose_42 (kIP (fun v8 q9 => ?_))
        refine j_iload_n hx 1 dX10_choose_45 rfl ?_
        refine j_callV hx hG (c_X10_keepBetter hst a v8 x2) lk_RX10_62 ha (by decide) rfl rfl rfl rfl [.int (zI v8), .int (zI x2)] ⟨rfl, hG, hS_s2, ha, (by omega), (by omega)⟩ rfl rfl ⟨by decide, by decide⟩ ⟨by decide, by decide⟩ (k2 := 0) (n2 := 0) rfl rfl (Nat.le_of_ble_eq_true rfl) dX10_choose_46 (kVM (fun s5 hS_s5 hF_s5 q11 => ?_))
        exact j_vret hx hq rfl (by decide) (by decide) dX10_choose_49 ⟨rfl, rfl, hS_s5, (zFr_t (zFr_t zFr_rf hF_s2 (by decide)) hF_s5 (by decide)), trivial⟩
      refine j_ifnullN hx 35 dX10_choose_24 rfl ?_
      exact j_sub [2, 4, 1] [(0, .ref a), (2, .int (zI x2)), (4, .ref r1)] rfl (c35_1 s0 hS0 zFr_rf)
    · skip
      refine j_astore hx [(5, .ref r5), (4, .ref r1), (0, .ref a), (1, .int (zI 6)), (2, .int (zI x2)), (3, .int (zI x3))] dX10_choose_14 (by decide) rfl ?_
      refine j_aload hx 1 dX10_choose_16 rfl ?_
      refine j_ifnonnull hx 22 dX10_choose_18 rfl ?_
      refine j_aload hx 0 dX10_choose_22 rfl ?_
      have c35_6 : ∀ (s7 : zS), (zSK G s7) → (zFr [1, 7, 41] G s0 s7) → JJ X E 8 G s7 0 0 [(0, .ref a), (2, .int (zI x2)), (4, .ref r1)] 35 [] := by
        intro s7 hS_s7 hF_s7
        refine j_aload_n hx 0 dX10_choose_35 rfl ?_
        refine j_aload hx 2 dX10_choose_36 rfl ?_
        refine j_aload_n hx 0 dX10_choose_38 rfl ?_
        have f12 := zf hS0 ha (k := 2) rfl
        refine g11_2 hx hG ha kf_RX10_41 (v := (s0 a 2)) (by rw [(zFr_g hF_s7 ha (by decide))]) dX10_choose_39 ?_
        refine j_callV hx hG (c_X0_cardsOf hst r1 ((s0 a 2))) lk_RX10_58 q2.1 (by decide) rfl rfl rfl rfl [.int (zI ((s0 a 2)))] ⟨rfl, hG, hS_s7, q2.1, (by omega)⟩ rfl rfl ⟨by decide, by decide⟩ ⟨by decide, by decide⟩ (k2 := 0) (n2 := 0) rfl rfl (Nat.le_of_ble_eq_true rfl) dX10_choose_42 (kIP (fun v13 q14 => ?_))
        refine j_iload_n hx 1 dX10_choose_45 rfl ?_
        refine j_callV hx hG (c_X10_keepBetter hst a v13 x2) lk_RX10_62 ha (by decide) rfl rfl rfl rfl [.int (zI v13), .int (zI x2)] ⟨rfl, hG, hS_s7, ha, (by omega), (by omega)⟩ rfl rfl ⟨by decide, by decide⟩ ⟨by decide, by decide⟩ (k2 := 0) (n2 := 0) rfl rfl (Nat.le_of_ble_eq_true rfl) dX10_choose_46 (kVM (fun s10 hS_s10 hF_s10 q16 => ?_))
        exact j_vret hx hq rfl (by decide) (by decide) dX10_choose_49 ⟨rfl, rfl, hS_s10, (zFr_t (zFr_t zFr_rf hF_s7 (by decide)) hF_s10 (by decide)), trivial⟩
      refine j_ifnull hx dX10_choose_24 ?_
      refine j_aload hx 1 dX10_choose_27 rfl ?_
      refine j_callV hx hG (c_X0_step hst r1) lk_RX10_33 q2.1 (by decide) rfl rfl rfl rfl [] ⟨rfl, hG, hS0, q2.1⟩ rfl rfl ⟨by decide, by decide⟩ ⟨by decide, by decide⟩ (k2 := 0) (n2 := 0) rfl rfl (Nat.le_of_ble_eq_true rfl) dX10_choose_29 (kIM (fun v17 s11 hS_s11 hF_s11 q18 => ?_))
      refine j_if_ne hx 50 dX10_choose_32 rfl (by omega) (fun h19 => ?_) (fun h19 => ?_)
      · skip
        refine j_aload hx 1 dX10_choose_50 rfl ?_
        refine j_callV hx hG (c_X0_likeTops hst r1) lk_RX10_37 q2.1 (by decide) rfl rfl rfl rfl [] ⟨rfl, hG, hS_s11, q2.1⟩ rfl rfl ⟨by decide, by decide⟩ ⟨by decide, by decide⟩ (k2 := 0) (n2 := 0) rfl rfl (Nat.le_of_ble_eq_true rfl) dX10_choose_52 (kIP (fun v20 q21 => ?_))
        refine j_istore hx [(6, .int (zI v20)), (5, .ref r5), (4, .ref r1), (0, .ref a), (1, .int (zI 6)), (2, .int (zI x2)), (3, .int (zI x3))] dX10_choose_55 (by decide) rfl ?_
        refine j_aload hx 2 dX10_choose_57 rfl ?_
        refine j_aload_n hx 3 dX10_choose_59 rfl ?_
        have f22 := zf hS0 ha (k := 2) rfl
        refine g11_2 hx hG ha kf_RX10_41 (v := (s0 a 2)) (by rw [(zFr_g hF_s11 ha (by decide))]) dX10_choose_60 ?_
        refine j_callV hx hG (c_X0_following hst r1 ((s0 a 2))) lk_RX10_66 q2.1 (by decide) rfl rfl rfl rfl [.int (zI ((s0 a 2)))] ⟨rfl, hG, hS_s11, q2.1, (by omega)⟩ rfl rfl ⟨by decide, by decide⟩ ⟨by decide, by decide⟩ (k2 := 0) (n2 := 0) rfl rfl (Nat.le_of_ble_eq_true rfl) dX10_choose_63 (kIP (fun v23 q24 => ?_))
        refine j_istore hx [(7, .int (zI v23)), (6, .int (zI v20)), (5, .ref r5), (4, .ref r1), (0, .ref a), (1, .int (zI 6)), (2, .int (zI x2)), (3, .int (zI x3))] dX10_choose_66 (by decide) rfl ?_
        refine j_aload hx 2 dX10_choose_68 rfl ?_
        refine j_aload hx 3 dX10_choose_70 rfl ?_
        refine j_callV hx hG (c_X0_become hst r5 r1) lk_RX10_26 q6.1 (by decide) rfl rfl rfl rfl [.ref r1] ⟨rfl, hG, hS_s11, q6.1, q2.1⟩ rfl rfl ⟨by decide, by decide⟩ ⟨by decide, by decide⟩ (k2 := 0) (n2 := 0) rfl rfl (Nat.le_of_ble_eq_true rfl) dX10_choose_72 (kVM (fun s12 hS_s12 hF_s12 q26 => ?_))
        refine j_iload hx 1 dX10_choose_75 rfl ?_
        refine j_iconst hx dX10_choose_77 ?_
        have c101_13 : ∀ (s14 : zS), (zSK G s14) → (zFr [7, 41] G s12 s14) → JJ X E 8 G s14 0 0 [(0, .ref a), (1, .int (zI 6)), (2, .int (zI x2)), (3, .int (zI x3)), (4, .ref r1), (5, .ref r5), (6, .int (zI v20))] 101 [] := by
          intro s14 hS_s14 hF_s14
          refine j_aload_n hx 0 dX10_choose_101 rfl ?_
          refine j_iload_n hx 1 dX10_choose_102 rfl ?_
          refine j_iconst hx dX10_choose_103 ?_
          refine j_iadd hx (r := 7) dX10_choose_104 (by omega) ?_
          refine j_iload_n hx 2 dX10_choose_105 rfl ?_
          refine j_iload_n hx 3 dX10_choose_106 rfl ?_
          refine j_callV hx hG (c_X10_choose_7 hst a 7 x2 x3) lk_RX10_54 ha (by decide) rfl rfl rfl rfl [.int (zI 7), .int (zI x2), .int (zI x3)] ⟨rfl, hG, hS_s14, ha, (by omega), (by omega), (by omega)⟩ rfl rfl ⟨by decide, by decide⟩ ⟨by decide, by decide⟩ (k2 := 0) (n2 := 0) rfl rfl (Nat.le_of_ble_eq_true rfl) dX10_choose_107 (kVM (fun s17 hS_s17 hF_s17 q28 => ?_))
          refine j_iload hx 6 dX10_choose_110 rfl ?_
          refine j_iconst hx dX10_choose_112 ?_
          refine j_icmp_eq hx 170 dX10_choose_113 rfl (by omega) ⟨by decide, by decide⟩ (fun h29 => ?_) (fun h29 => ?_)
          · skip
            exact j_vret hx hq rfl (by decide) (by decide) dX10_choose_170 ⟨rfl, rfl, hS_s17, (zFr_t (zFr_t (zFr_t (zFr_t zFr_rf hF_s11 (by decide)) hF_s12 (by decide)) hF_s14 (by decide)) hF_s17 (by decide)), trivial⟩
          · skip
            refine j_iload_n hx 3 dX10_choose_116 rfl ?_
            refine j_if_le hx 170 dX10_choose_117 rfl (by omega) (fun h30 => ?_) (fun h30 => ?_)
            · skip
              exact j_vret hx hq rfl (by decide) (by decide) dX10_choose_170 ⟨rfl, rfl, hS_s17, (zFr_t (zFr_t (zFr_t (zFr_t zFr_rf hF_s11 (by decide)) hF_s12 (by decide)) hF_s14 (by decide)) hF_s17 (by decide)), trivial⟩
            · skip
              refine j_aload hx 4 dX10_choose_120 rfl ?_
              refine j_aload_n hx 0 dX10_choose_122 rfl ?_
              have f31 := zf hS_s17 ha (k := 2) rfl
              refine g11_2 hx hG ha kf_RX10_41 rfl dX10_choose_123 ?_
              refine j_callV hx hG (c_X0_isOut hst r1 ((s17 a 2))) lk_RX10_73 q2.1 (by decide) rfl rfl rfl rfl [.int (zI ((s17 a 2)))] ⟨rfl, hG, hS_s17, q2.1, (by omega)⟩ rfl rfl ⟨by decide, by decide⟩ ⟨by decide, by decide⟩ (k2 := 0) (n2 := 0) rfl rfl (Nat.le_of_ble_eq_true rfl) dX10_choose_126 (kIP (fun v32 q33 => ?_))
              refine j_if_ne hx 170 dX10_choose_129 rfl (by omega) (fun h34 => ?_) (fun h34 => ?_)
              · skip
                exact j_vret hx hq rfl (by decide) (by decide) dX10_choose_170 ⟨rfl, rfl, hS_s17, (zFr_t (zFr_t (zFr_t (zFr_t zFr_rf hF_s11 (by decide)) hF_s12 (by decide)) hF_s14 (by decide)) hF_s17 (by decide)), trivial⟩
              · skip
                refine j_aload hx 5 dX10_choose_132 rfl ?_
                refine j_aload hx 4 dX10_choose_134 rfl ?_
                refine j_callV hx hG (c_X0_become hst r5 r1) lk_RX10_26 q6.1 (by decide) rfl rfl rfl rfl [.ref r1] ⟨rfl, hG, hS_s17, q6.1, q2.1⟩ rfl rfl ⟨by decide, by decide⟩ ⟨by decide, by decide⟩ (k2 := 0) (n2 := 0) rfl rfl (Nat.le_of_ble_eq_true rfl) dX10_choose_136 (kVM (fun s18 hS_s18 hF_s18 q36 => ?_))
                refine j_aload hx 5 dX10_choose_139 rfl ?_
                refine j_aload_n hx 0 dX10_choose_141 rfl ?_
                refine g11_2 hx hG ha kf_RX10_41 (v := (s17 a 2)) (by rw [(zFr_g hF_s18 ha (by decide))]) dX10_choose_142 ?_
                refine j_iload hx 6 dX10_choose_145 rfl ?_
                refine j_aload_n hx 0 dX10_choose_147 rfl ?_
                have f37 := zf hS_s17 ha (k := 3) rfl
                refine g11_3 hx hG ha kf_RX10_45 (v := (s17 a 3)) (by rw [(zFr_g hF_s18 ha (by decide))]) dX10_choose_148 ?_
                refine j_callV hx hG (c_X0_win hst r5 ((s17 a 2)) v20 ((s17 a 3))) lk_RX10_69 q6.1 (by decide) rfl rfl rfl rfl [.int (zI ((s17 a 2))), .int (zI v20), .int (zI ((s17 a 3)))] ⟨rfl, hG, hS_s18, q6.1, (by omega), (by omega), (by omega)⟩ rfl rfl ⟨by decide, by decide⟩ ⟨by decide, by decide⟩ (k2 := 0) (n2 := 0) rfl rfl (Nat.le_of_ble_eq_true rfl) dX10_choose_151 (kIM (fun v38 s19 hS_s19 hF_s19 q39 => ?_))
                refine j_pop hx dX10_choose_154 rfl ?_
                refine j_aload_n hx 0 dX10_choose_155 rfl ?_
                refine j_iload_n hx 1 dX10_choose_156 rfl ?_
                refine j_iconst hx dX10_choose_157 ?_
                refine j_iadd hx (r := 7) dX10_choose_158 (by omega) ?_
                refine j_iload_n hx 2 dX10_choose_159 rfl ?_
                refine j_iconst hx dX10_choose_160 ?_
                refine j_iload_n hx 1 dX10_choose_161 rfl ?_
                refine j_ishl hx dX10_choose_162 (fun v40 f41 f42 => ?_)
                refine j_ior hx dX10_choose_163 (fun v43 f44 f45 => ?_)
                refine j_iload_n hx 3 dX10_choose_164 rfl ?_
                refine j_iconst hx dX10_choose_165 ?_
                refine j_isub hx (r := x3 - 1) dX10_choose_166 rfl ?_
                refine j_callV hx hG (c_X10_choose_7 hst a 7 v43 (x3 - 1)) lk_RX10_54 ha (by decide) rfl rfl rfl rfl [.int (zI 7), .int (zI v43), .int (zI (x3 - 1))] ⟨rfl, hG, hS_s19, ha, (by omega), (by omega), (by omega)⟩ rfl rfl ⟨by decide, by decide⟩ ⟨by decide, by decide⟩ (k2 := 0) (n2 := 0) rfl rfl (Nat.le_of_ble_eq_true rfl) dX10_choose_167 (kVM (fun s20 hS_s20 hF_s20 q47 => ?_))
                exact j_vret hx hq rfl (by decide) (by decide) dX10_choose_170 ⟨rfl, rfl, hS_s20, (zFr_t (zFr_t (zFr_t (zFr_t (zFr_t (zFr_t (zFr_t zFr_rf hF_s11 (by decide)) hF_s12 (by decide)) hF_s14 (by decide)) hF_s17 (by decide)) hF_s18 (by decide)) hF_s19 (by decide)) hF_s20 (by decide)), trivial⟩
        refine j_icmp_eq hx 101 dX10_choose_78 rfl (by omega) ⟨by decide, by decide⟩ (fun h48 => ?_) (fun h48 => ?_)
        · skip
          exact j_sub [4, 5, 6, 7, 3, 2, 1] [(0, .ref a), (1, .int (zI 6)), (2, .int (zI x2)), (3, .int (zI x3)), (4, .ref r1), (5, .ref r5), (6, .int (zI v20))] rfl (c101_13 s12 hS_s12 zFr_rf)
        · skip
          refine j_iload hx 0 dX10_choose_81 rfl ?_
          refine j_iconst hx dX10_choose_83 ?_
          refine j_icmp_eq hx 101 dX10_choose_84 rfl (by omega) ⟨by decide, by decide⟩ (fun h49 => ?_) (fun h49 => ?_)
          · skip
            exact j_sub [4, 5, 6, 7, 3, 2, 1] [(0, .ref a), (1, .int (zI 6)), (2, .int (zI x2)), (3, .int (zI x3)), (4, .ref r1), (5, .ref r5), (6, .int (zI v20))] rfl (c101_13 s12 hS_s12 zFr_rf)
          · skip
            refine j_aload hx 2 dX10_choose_87 rfl ?_
            refine j_iload hx 0 dX10_choose_89 rfl ?_
            refine j_iload hx 1 dX10_choose_91 rfl ?_
            refine j_aload_n hx 4 dX10_choose_93 rfl ?_
            have f50 := zf hS0 ha (k := 3) rfl
            refine g11_3 hx hG ha kf_RX10_45 (v := (s0 a 3)) (by rw [(zFr_g hF_s12 ha (by decide)), (zFr_g hF_s11 ha (by decide))]) dX10_choose_94 ?_
            refine j_callV hx hG (c_X0_win hst r5 v23 v20 ((s0 a 3))) lk_RX10_69 q6.1 (by decide) rfl rfl rfl rfl [.int (zI v23), .int (zI v20), .int (zI ((s0 a 3)))] ⟨rfl, hG, hS_s12, q6.1, (by omega), (by omega), (by omega)⟩ rfl rfl ⟨by decide, by decide⟩ ⟨by decide, by decide⟩ (k2 := 0) (n2 := 0) rfl rfl (Nat.le_of_ble_eq_true rfl) dX10_choose_97 (kIM (fun v51 s21 hS_s21 hF_s21 q52 => ?_))
            refine j_pop hx dX10_choose_100 rfl ?_
            exact j_sub [4, 5, 6, 7, 3, 2, 1] [(0, .ref a), (1, .int (zI 6)), (2, .int (zI x2)), (3, .int (zI x3)), (4, .ref r1), (5, .ref r5), (6, .int (zI v20))] rfl (c101_13 s21 hS_s21 (zFr_t zFr_rf hF_s21 (by decide)))
      · skip
        exact j_sub [2, 4, 1] [(0, .ref a), (2, .int (zI x2)), (4, .ref r1)] rfl (c35_6 s11 hS_s11 (zFr_t zFr_rf hF_s11 (by decide)))

set_option maxHeartbeats 4000000 in
set_option maxRecDepth 20000 in
theorem c_X10_choose_5 {E : zE} {l : Launch} (hst : l.stackTraces = false) (a : Nat) (x1 : Int) (x2 : Int) (x3 : Int) : Con E l yX10_choose cX10_choose 8 none { frames := 10, cells := 0, slots := 0, locals := 248 } (fun G s vs => vs = [.ref a, .int (zI x1), .int (zI x2), .int (zI x3)] ∧ zGK G ∧ zSK G s ∧ (gT G a = 11) ∧ (5 ≤ x1 ∧ x1 ≤ 5) ∧ ((-2147483648) ≤ x2 ∧ x2 ≤ 2147483647) ∧ (0 ≤ x3 ∧ x3 ≤ 4)) (fun G s _ => pV (fun G2 s2 => G2 = G ∧ zSK G s2 ∧ zFr [1, 7, 11, 41] G s s2 ∧ True)) := by
  refine Con.mk hst (by decide) (fun G s vs h => by rw [h.1]; exact Nat.le_of_ble_eq_true rfl) ?_
  rintro X G s0 vs ⟨rfl, hG, hS0, ha, hx1, hx2, hx3⟩ rfl hx hq
  obtain rfl : x1 = 5 := by omega
  show JJ X E 8 G s0 0 0 [(0, .ref a), (1, .int (zI 5)), (2, .int (zI x2)), (3, .int (zI x3))] 0 []
  refine j_aload_n hx 0 dX10_choose_0 rfl ?_
  refine j_iload_n hx 1 dX10_choose_1 rfl ?_
  refine j_callV hx hG (c_X10_boardAt hst a 5) lk_RX10_22 ha (by decide) rfl rfl rfl rfl [.int (zI 5)] ⟨rfl, hG, hS0, ha, (by omega)⟩ rfl rfl ⟨by decide, by decide⟩ ⟨by decide, by decide⟩ (k2 := 0) (n2 := 0) rfl rfl (Nat.le_of_ble_eq_true rfl) dX10_choose_2 (kNP (fun _ => ?_) (fun r1 q2 => ?_))
  · skip
    refine j_astoreN hx [(4, .null), (0, .ref a), (1, .int (zI 5)), (2, .int (zI x2)), (3, .int (zI x3))] dX10_choose_5 (by decide) rfl ?_
    refine j_aload_n hx 1 dX10_choose_7 rfl ?_
    refine j_iload_n hx 2 dX10_choose_8 rfl ?_
    refine j_iconst hx dX10_choose_9 ?_
    refine j_iadd hx (r := 6) dX10_choose_10 (by omega) ?_
    refine j_callV hx hG (c_X10_boardAt hst a 6) lk_RX10_22 ha (by decide) rfl rfl rfl rfl [.int (zI 6)] ⟨rfl, hG, hS0, ha, (by omega)⟩ rfl rfl ⟨by decide, by decide⟩ ⟨by decide, by decide⟩ (k2 := 0) (n2 := 0) rfl rfl (Nat.le_of_ble_eq_true rfl) dX10_choose_11 (kNP (fun _ => ?_) (fun r3 q4 => ?_))
    · skip
      refine j_astoreN hx [(5, .null), (4, .null), (0, .ref a), (1, .int (zI 5)), (2, .int (zI x2)), (3, .int (zI x3))] dX10_choose_14 (by decide) rfl ?_
      refine j_aloadN hx 1 dX10_choose_16 rfl ?_
      refine j_ifnonnullN hx dX10_choose_18 ?_
      exact j_vret hx hq rfl (by decide) (by decide) dX10_choose_21 ⟨rfl, rfl, hS0, zFr_rf, trivial⟩
    · skip
      refine j_astore hx [(5, .ref r3), (4, .null), (0, .ref a), (1, .int (zI 5)), (2, .int (zI x2)), (3, .int (zI x3))] dX10_choose_14 (by decide) rfl ?_
      refine j_aloadN hx 1 dX10_choose_16 rfl ?_
      refine j_ifnonnullN hx dX10_choose_18 ?_
      exact j_vret hx hq rfl (by decide) (by decide) dX10_choose_21 ⟨rfl, rfl, hS0, zFr_rf, trivial⟩
  · skip
    refine j_astore hx [(4, .ref r1), (0, .ref a), (1, .int (zI 5)), (2, .int (zI x2)), (3, .int (zI x3))] dX10_choose_5 (by decide) rfl ?_
    refine j_aload_n hx 1 dX10_choose_7 rfl ?_
    refine j_iload_n hx 2 dX10_choose_8 rfl ?_
    refine j_iconst hx dX10_choose_9 ?_
    refine j_iadd hx (r := 6) dX10_choose_10 (by omega) ?_
    refine j_callV hx hG (c_X10_boardAt hst a 6) lk_RX10_22 ha (by decide) rfl rfl rfl rfl [.int (zI 6)] ⟨rfl, hG, hS0, ha, (by omega)⟩ rfl rfl ⟨by decide, by decide⟩ ⟨by decide, by decide⟩ (k2 := 0) (n2 := 0) rfl rfl (Nat.le_of_ble_eq_true rfl) dX10_choose_11 (kNP (fun _ => ?_) (fun r5 q6 => ?_))
    · skip
      refine j_astoreN hx [(5, .null), (4, .ref r1), (0, .ref a), (1, .int (zI 5)), (2, .int (zI x2)), (3, .int (zI x3))] dX10_choose_14 (by decide) rfl ?_
      refine j_aload hx 1 dX10_choose_16 rfl ?_
      refine j_ifnonnull hx 22 dX10_choose_18 rfl ?_
      refine j_aloadN hx 0 dX10_choose_22 rfl ?_
      have c35_1 : ∀ (s2 : zS), (zSK G s2) → (zFr [1, 7, 41] G s0 s2) → JJ X E 8 G s2 0 0 [(0, .ref a), (2, .int (zI x2)), (4, .ref r1)] 35 [] := by
        intro s2 hS_s2 hF_s2
        refine j_aload_n hx 0 dX10_choose_35 rfl ?_
        refine j_aload hx 2 dX10_choose_36 rfl ?_
        refine j_aload_n hx 0 dX10_choose_38 rfl ?_
        have f7 := zf hS0 ha (k := 2) rfl
        refine g11_2 hx hG ha kf_RX10_41 (v := (s0 a 2)) (by rw [(zFr_g hF_s2 ha (by decide))]) dX10_choose_39 ?_
        refine j_callV hx hG (c_X0_cardsOf hst r1 ((s0 a 2))) lk_RX10_58 q2.1 (by decide) rfl rfl rfl rfl [.int (zI ((s0 a 2)))] ⟨rfl, hG, hS_s2, q2.1, (by omega)⟩ rfl rfl ⟨by decide, by decide⟩ ⟨by decide, by decide⟩ (k2 := 0) (n2 := 0) rfl rfl (Nat.le_of_ble_eq_true rfl) dX10_choose_42 (kIP (fun v8 q9 => ?_))
        refine j_iload_n hx 1 dX10_choose_45 rfl ?_
        refine j_callV hx hG (c_X10_keepBetter hst a v8 x2) lk_RX10_62 ha (by decide) rfl rfl rfl rfl [.int (zI v8), .int (zI x2)] ⟨rfl, hG, hS_s2, ha, (by omega), (by omega)⟩ rfl rfl ⟨by decide, by decide⟩ ⟨by decide, by decide⟩ (k2 := 0) (n2 := 0) rfl rfl (Nat.le_of_ble_eq_true rfl) dX10_choose_46 (kVM (fun s5 hS_s5 hF_s5 q11 => ?_))
        exact j_vret hx hq rfl (by decide) (by decide) dX10_choose_49 ⟨rfl, rfl, hS_s5, (zFr_t (zFr_t zFr_rf hF_s2 (by decide)) hF_s5 (by decide)), trivial⟩
      refine j_ifnullN hx 35 dX10_choose_24 rfl ?_
      exact j_sub [2, 4, 1] [(0, .ref a), (2, .int (zI x2)), (4, .ref r1)] rfl (c35_1 s0 hS0 zFr_rf)
    · skip
      refine j_astore hx [(5, .ref r5), (4, .ref r1), (0, .ref a), (1, .int (zI 5)), (2, .int (zI x2)), (3, .int (zI x3))] dX10_choose_14 (by decide) rfl ?_
      refine j_aload hx 1 dX10_choose_16 rfl ?_
      refine j_ifnonnull hx 22 dX10_choose_18 rfl ?_
      refine j_aload hx 0 dX10_choose_22 rfl ?_
      have c35_6 : ∀ (s7 : zS), (zSK G s7) → (zFr [1, 7, 41] G s0 s7) → JJ X E 8 G s7 0 0 [(0, .ref a), (2, .int (zI x2)), (4, .ref r1)] 35 [] := by
        intro s7 hS_s7 hF_s7
        refine j_aload_n hx 0 dX10_choose_35 rfl ?_
        refine j_aload hx 2 dX10_choose_36 rfl ?_
        refine j_aload_n hx 0 dX10_choose_38 rfl ?_
        have f12 := zf hS0 ha (k := 2) rfl
        refine g11_2 hx hG ha kf_RX10_41 (v := (s0 a 2)) (by rw [(zFr_g hF_s7 ha (by decide))]) dX10_choose_39 ?_
        refine j_callV hx hG (c_X0_cardsOf hst r1 ((s0 a 2))) lk_RX10_58 q2.1 (by decide) rfl rfl rfl rfl [.int (zI ((s0 a 2)))] ⟨rfl, hG, hS_s7, q2.1, (by omega)⟩ rfl rfl ⟨by decide, by decide⟩ ⟨by decide, by decide⟩ (k2 := 0) (n2 := 0) rfl rfl (Nat.le_of_ble_eq_true rfl) dX10_choose_42 (kIP (fun v13 q14 => ?_))
        refine j_iload_n hx 1 dX10_choose_45 rfl ?_
        refine j_callV hx hG (c_X10_keepBetter hst a v13 x2) lk_RX10_62 ha (by decide) rfl rfl rfl rfl [.int (zI v13), .int (zI x2)] ⟨rfl, hG, hS_s7, ha, (by omega), (by omega)⟩ rfl rfl ⟨by decide, by decide⟩ ⟨by decide, by decide⟩ (k2 := 0) (n2 := 0) rfl rfl (Nat.le_of_ble_eq_true rfl) dX10_choose_46 (kVM (fun s10 hS_s10 hF_s10 q16 => ?_))
        exact j_vret hx hq rfl (by decide) (by decide) dX10_choose_49 ⟨rfl, rfl, hS_s10, (zFr_t (zFr_t zFr_rf hF_s7 (by decide)) hF_s10 (by decide)), trivial⟩
      refine j_ifnull hx dX10_choose_24 ?_
      refine j_aload hx 1 dX10_choose_27 rfl ?_
      refine j_callV hx hG (c_X0_step hst r1) lk_RX10_33 q2.1 (by decide) rfl rfl rfl rfl [] ⟨rfl, hG, hS0, q2.1⟩ rfl rfl ⟨by decide, by decide⟩ ⟨by decide, by decide⟩ (k2 := 0) (n2 := 0) rfl rfl (Nat.le_of_ble_eq_true rfl) dX10_choose_29 (kIM (fun v17 s11 hS_s11 hF_s11 q18 => ?_))
      refine j_if_ne hx 50 dX10_choose_32 rfl (by omega) (fun h19 => ?_) (fun h19 => ?_)
      · skip
        refine j_aload hx 1 dX10_choose_50 rfl ?_
        refine j_callV hx hG (c_X0_likeTops hst r1) lk_RX10_37 q2.1 (by decide) rfl rfl rfl rfl [] ⟨rfl, hG, hS_s11, q2.1⟩ rfl rfl ⟨by decide, by decide⟩ ⟨by decide, by decide⟩ (k2 := 0) (n2 := 0) rfl rfl (Nat.le_of_ble_eq_true rfl) dX10_choose_52 (kIP (fun v20 q21 => ?_))
        refine j_istore hx [(6, .int (zI v20)), (5, .ref r5), (4, .ref r1), (0, .ref a), (1, .int (zI 5)), (2, .int (zI x2)), (3, .int (zI x3))] dX10_choose_55 (by decide) rfl ?_
        refine j_aload hx 2 dX10_choose_57 rfl ?_
        refine j_aload_n hx 3 dX10_choose_59 rfl ?_
        have f22 := zf hS0 ha (k := 2) rfl
        refine g11_2 hx hG ha kf_RX10_41 (v := (s0 a 2)) (by rw [(zFr_g hF_s11 ha (by decide))]) dX10_choose_60 ?_
        refine j_callV hx hG (c_X0_following hst r1 ((s0 a 2))) lk_RX10_66 q2.1 (by decide) rfl rfl rfl rfl [.int (zI ((s0 a 2)))] ⟨rfl, hG, hS_s11, q2.1, (by omega)⟩ rfl rfl ⟨by decide, by decide⟩ ⟨by decide, by decide⟩ (k2 := 0) (n2 := 0) rfl rfl (Nat.le_of_ble_eq_true rfl) dX10_choose_63 (kIP (fun v23 q24 => ?_))
        refine j_istore hx [(7, .int (zI v23)), (6, .int (zI v20)), (5, .ref r5), (4, .ref r1), (0, .ref a), (1, .int (zI 5)), (2, .int (zI x2)), (3, .int (zI x3))] dX10_choose_66 (by decide) rfl ?_
        refine j_aload hx 2 dX10_choose_68 rfl ?_
        refine j_aload hx 3 dX10_choose_70 rfl ?_
        refine j_callV hx hG (c_X0_become hst r5 r1) lk_RX10_26 q6.1 (by decide) rfl rfl rfl rfl [.ref r1] ⟨rfl, hG, hS_s11, q6.1, q2.1⟩ rfl rfl ⟨by decide, by decide⟩ ⟨by decide, by decide⟩ (k2 := 0) (n2 := 0) rfl rfl (Nat.le_of_ble_eq_true rfl) dX10_choose_72 (kVM (fun s12 hS_s12 hF_s12 q26 => ?_))
        refine j_iload hx 1 dX10_choose_75 rfl ?_
        refine j_iconst hx dX10_choose_77 ?_
        have c101_13 : ∀ (s14 : zS), (zSK G s14) → (zFr [7, 41] G s12 s14) → JJ X E 8 G s14 0 0 [(0, .ref a), (1, .int (zI 5)), (2, .int (zI x2)), (3, .int (zI x3)), (4, .ref r1), (5, .ref r5), (6, .int (zI v20))] 101 [] := by
          intro s14 hS_s14 hF_s14
          refine j_aload_n hx 0 dX10_choose_101 rfl ?_
          refine j_iload_n hx 1 dX10_choose_102 rfl ?_
          refine j_iconst hx dX10_choose_103 ?_
          refine j_iadd hx (r := 6) dX10_choose_104 (by omega) ?_
          refine j_iload_n hx 2 dX10_choose_105 rfl ?_
          refine j_iload_n hx 3 dX10_choose_106 rfl ?_
          refine j_callV hx hG (c_X10_choose_6 hst a 6 x2 x3) lk_RX10_54 ha (by decide) rfl rfl rfl rfl [.int (zI 6), .int (zI x2), .int (zI x3)] ⟨rfl, hG, hS_s14, ha, (by omega), (by omega), (by omega)⟩ rfl rfl ⟨by decide, by decide⟩ ⟨by decide, by decide⟩ (k2 := 0) (n2 := 0) rfl rfl (Nat.le_of_ble_eq_true rfl) dX10_choose_107 (kVM (fun s17 hS_s17 hF_s17 q28 => ?_))
          refine j_iload hx 6 dX10_choose_110 rfl ?_
          refine j_iconst hx dX10_choose_112 ?_
          refine j_icmp_eq hx 170 dX10_choose_113 rfl (by omega) ⟨by decide, by decide⟩ (fun h29 => ?_) (fun h29 => ?_)
          · skip
            exact j_vret hx hq rfl (by decide) (by decide) dX10_choose_170 ⟨rfl, rfl, hS_s17, (zFr_t (zFr_t (zFr_t (zFr_t zFr_rf hF_s11 (by decide)) hF_s12 (by decide)) hF_s14 (by decide)) hF_s17 (by decide)), trivial⟩
          · skip
            refine j_iload_n hx 3 dX10_choose_116 rfl ?_
            refine j_if_le hx 170 dX10_choose_117 rfl (by omega) (fun h30 => ?_) (fun h30 => ?_)
            · skip
              exact j_vret hx hq rfl (by decide) (by decide) dX10_choose_170 ⟨rfl, rfl, hS_s17, (zFr_t (zFr_t (zFr_t (zFr_t zFr_rf hF_s11 (by decide)) hF_s12 (by decide)) hF_s14 (by decide)) hF_s17 (by decide)), trivial⟩
            · skip
              refine j_aload hx 4 dX10_choose_120 rfl ?_
              refine j_aload_n hx 0 dX10_choose_122 rfl ?_
              have f31 := zf hS_s17 ha (k := 2) rfl
              refine g11_2 hx hG ha kf_RX10_41 rfl dX10_choose_123 ?_
              refine j_callV hx hG (c_X0_isOut hst r1 ((s17 a 2))) lk_RX10_73 q2.1 (by decide) rfl rfl rfl rfl [.int (zI ((s17 a 2)))] ⟨rfl, hG, hS_s17, q2.1, (by omega)⟩ rfl rfl ⟨by decide, by decide⟩ ⟨by decide, by decide⟩ (k2 := 0) (n2 := 0) rfl rfl (Nat.le_of_ble_eq_true rfl) dX10_choose_126 (kIP (fun v32 q33 => ?_))
              refine j_if_ne hx 170 dX10_choose_129 rfl (by omega) (fun h34 => ?_) (fun h34 => ?_)
              · skip
                exact j_vret hx hq rfl (by decide) (by decide) dX10_choose_170 ⟨rfl, rfl, hS_s17, (zFr_t (zFr_t (zFr_t (zFr_t zFr_rf hF_s11 (by decide)) hF_s12 (by decide)) hF_s14 (by decide)) hF_s17 (by decide)), trivial⟩
              · skip
                refine j_aload hx 5 dX10_choose_132 rfl ?_
                refine j_aload hx 4 dX10_choose_134 rfl ?_
                refine j_callV hx hG (c_X0_become hst r5 r1) lk_RX10_26 q6.1 (by decide) rfl rfl rfl rfl [.ref r1] ⟨rfl, hG, hS_s17, q6.1, q2.1⟩ rfl rfl ⟨by decide, by decide⟩ ⟨by decide, by decide⟩ (k2 := 0) (n2 := 0) rfl rfl (Nat.le_of_ble_eq_true rfl) dX10_choose_136 (kVM (fun s18 hS_s18 hF_s18 q36 => ?_))
                refine j_aload hx 5 dX10_choose_139 rfl ?_
                refine j_aload_n hx 0 dX10_choose_141 rfl ?_
                refine g11_2 hx hG ha kf_RX10_41 (v := (s17 a 2)) (by rw [(zFr_g hF_s18 ha (by decide))]) dX10_choose_142 ?_
                refine j_iload hx 6 dX10_choose_145 rfl ?_
                refine j_aload_n hx 0 dX10_choose_147 rfl ?_
                have f37 := zf hS_s17 ha (k := 3) rfl
                refine g11_3 hx hG ha kf_RX10_45 (v := (s17 a 3)) (by rw [(zFr_g hF_s18 ha (by decide))]) dX10_choose_148 ?_
                refine j_callV hx hG (c_X0_win hst r5 ((s17 a 2)) v20 ((s17 a 3))) lk_RX10_69 q6.1 (by decide) rfl rfl rfl rfl [.int (zI ((s17 a 2))), .int (zI v20), .int (zI ((s17 a 3)))] ⟨rfl, hG, hS_s18, q6.1, (by omega), (by omega), (by omega)⟩ rfl rfl ⟨by decide, by decide⟩ ⟨by decide, by decide⟩ (k2 := 0) (n2 := 0) rfl rfl (Nat.le_of_ble_eq_true rfl) dX10_choose_151 (kIM (fun v38 s19 hS_s19 hF_s19 q39 => ?_))
                refine j_pop hx dX10_choose_154 rfl ?_
                refine j_aload_n hx 0 dX10_choose_155 rfl ?_
                refine j_iload_n hx 1 dX10_choose_156 rfl ?_
                refine j_iconst hx dX10_choose_157 ?_
                refine j_iadd hx (r := 6) dX10_choose_158 (by omega) ?_
                refine j_iload_n hx 2 dX10_choose_159 rfl ?_
                refine j_iconst hx dX10_choose_160 ?_
                refine j_iload_n hx 1 dX10_choose_161 rfl ?_
                refine j_ishl hx dX10_choose_162 (fun v40 f41 f42 => ?_)
                refine j_ior hx dX10_choose_163 (fun v43 f44 f45 => ?_)
                refine j_iload_n hx 3 dX10_choose_164 rfl ?_
                refine j_iconst hx dX10_choose_165 ?_
                refine j_isub hx (r := x3 - 1) dX10_choose_166 rfl ?_
                refine j_callV hx hG (c_X10_choose_6 hst a 6 v43 (x3 - 1)) lk_RX10_54 ha (by decide) rfl rfl rfl rfl [.int (zI 6), .int (zI v43), .int (zI (x3 - 1))] ⟨rfl, hG, hS_s19, ha, (by omega), (by omega), (by omega)⟩ rfl rfl ⟨by decide, by decide⟩ ⟨by decide, by decide⟩ (k2 := 0) (n2 := 0) rfl rfl (Nat.le_of_ble_eq_true rfl) dX10_choose_167 (kVM (fun s20 hS_s20 hF_s20 q47 => ?_))
                exact j_vret hx hq rfl (by decide) (by decide) dX10_choose_170 ⟨rfl, rfl, hS_s20, (zFr_t (zFr_t (zFr_t (zFr_t (zFr_t (zFr_t (zFr_t zFr_rf hF_s11 (by decide)) hF_s12 (by decide)) hF_s14 (by decide)) hF_s17 (by decide)) hF_s18 (by decide)) hF_s19 (by decide)) hF_s20 (by decide)), trivial⟩
        refine j_icmp_eq hx 101 dX10_choose_78 rfl (by omega) ⟨by decide, by decide⟩ (fun h48 => ?_) (fun h48 => ?_)
        · skip
          exact j_sub [4, 5, 6, 7, 3, 2, 1] [(0, .ref a), (1, .int (zI 5)), (2, .int (zI x2)), (3, .int (zI x3)), (4, .ref r1), (5, .ref r5), (6, .int (zI v20))] rfl (c101_13 s12 hS_s12 zFr_rf)
        · skip
          refine j_iload hx 0 dX10_choose_81 rfl ?_
          refine j_iconst hx dX10_choose_83 ?_
          refine j_icmp_eq hx 101 dX10_choose_84 rfl (by omega) ⟨by decide, by decide⟩ (fun h49 => ?_) (fun h49 => ?_)
          · skip
            exact j_sub [4, 5, 6, 7, 3, 2, 1] [(0, .ref a), (1, .int (zI 5)), (2, .int (zI x2)), (3, .int (zI x3)), (4, .ref r1), (5, .ref r5), (6, .int (zI v20))] rfl (c101_13 s12 hS_s12 zFr_rf)
          · skip
            refine j_aload hx 2 dX10_choose_87 rfl ?_
            refine j_iload hx 0 dX10_choose_89 rfl ?_
            refine j_iload hx 1 dX10_choose_91 rfl ?_
            refine j_aload_n hx 4 dX10_choose_93 rfl ?_
            have f50 := zf hS0 ha (k := 3) rfl
            refine g11_3 hx hG ha kf_RX10_45 (v := (s0 a 3)) (by rw [(zFr_g hF_s12 ha (by decide)), (zFr_g hF_s11 ha (by decide))]) dX10_choose_94 ?_
            refine j_callV hx hG (c_X0_win hst r5 v23 v20 ((s0 a 3))) lk_RX10_69 q6.1 (by decide) rfl rfl rfl rfl [.int (zI v23), .int (zI v20), .int (zI ((s0 a 3)))] ⟨rfl, hG, hS_s12, q6.1, (by omega), (by omega), (by omega)⟩ rfl rfl ⟨by decide, by decide⟩ ⟨by decide, by decide⟩ (k2 := 0) (n2 := 0) rfl rfl (Nat.le_of_ble_eq_true rfl) dX10_choose_97 (kIM (fun v51 s21 hS_s21 hF_s21 q52 => ?_))
            refine j_pop hx dX10_choose_100 rfl ?_
            exact j_sub [4, 5, 6, 7, 3, 2, 1] [(0, .ref a), (1, .int (zI 5)), (2, .int (zI x2)), (3, .int (zI x3)), (4, .ref r1), (5, .ref r5), (6, .int (zI v20))] rfl (c101_13 s21 hS_s21 (zFr_t zFr_rf hF_s21 (by decide)))
      · skip
        exact j_sub [2, 4, 1] [(0, .ref a), (2, .int (zI x2)), (4, .ref r1)] rfl (c35_6 s11 hS_s11 (zFr_t zFr_rf hF_s11 (by decide)))

set_option maxHeartbeats 4000000 in
set_option maxRecDepth 20000 in
theorem c_X10_choose_4 {E : zE} {l : Launch} (hst : l.stackTraces = false) (a : Nat) (x1 : Int) (x2 : Int) (x3 : Int) : Con E l yX10_choose cX10_choose 8 none { frames := 11, cells := 0, slots := 0, locals := 275 } (fun G s vs => vs = [.ref a, .int (zI x1), .int (zI x2), .int (zI x3)] ∧ zGK G ∧ zSK G s ∧ (gT G a = 11) ∧ (4 ≤ x1 ∧ x1 ≤ 4) ∧ ((-2147483648) ≤ x2 ∧ x2 ≤ 2147483647) ∧ (0 ≤ x3 ∧ x3 ≤ 4)) (fun G s _ => pV (fun G2 s2 => G2 = G ∧ zSK G s2 ∧ zFr [1, 7, 11, 41] G s s2 ∧ True)) := by
  refine Con.mk hst (by decide) (fun G s vs h => by rw [h.1]; exact Nat.le_of_ble_eq_true rfl) ?_
  rintro X G s0 vs ⟨rfl, hG, hS0, ha, hx1, hx2, hx3⟩ rfl hx hq
  obtain rfl : x1 = 4 := by omega
  show JJ X E 8 G s0 0 0 [(0, .ref a), (1, .int (zI 4)), (2, .int (zI x2)), (3, .int (zI x3))] 0 []
  refine j_aload_n hx 0 dX10_choose_0 rfl ?_
  refine j_iload_n hx 1 dX10_choose_1 rfl ?_
  refine j_callV hx hG (c_X10_boardAt hst a 4) lk_RX10_22 ha (by decide) rfl rfl rfl rfl [.int (zI 4)] ⟨rfl, hG, hS0, ha, (by omega)⟩ rfl rfl ⟨by decide, by decide⟩ ⟨by decide, by decide⟩ (k2 := 0) (n2 := 0) rfl rfl (Nat.le_of_ble_eq_true rfl) dX10_choose_2 (kNP (fun _ => ?_) (fun r1 q2 => ?_))
  · skip
    refine j_astoreN hx [(4, .null), (0, .ref a), (1, .int (zI 4)), (2, .int (zI x2)), (3, .int (zI x3))] dX10_choose_5 (by decide) rfl ?_
    refine j_aload_n hx 1 dX10_choose_7 rfl ?_
    refine j_iload_n hx 2 dX10_choose_8 rfl ?_
    refine j_iconst hx dX10_choose_9 ?_
    refine j_iadd hx (r := 5) dX10_choose_10 (by omega) ?_
    refine j_callV hx hG (c_X10_boardAt hst a 5) lk_RX10_22 ha (by decide) rfl rfl rfl rfl [.int (zI 5)] ⟨rfl, hG, hS0, ha, (by omega)⟩ rfl rfl ⟨by decide, by decide⟩ ⟨by decide, by decide⟩ (k2 := 0) (n2 := 0) rfl rfl (Nat.le_of_ble_eq_true rfl) dX10_choose_11 (kNP (fun _ => ?_) (fun r3 q4 => ?_))
    · skip
      refine j_astoreN hx [(5, .null), (4, .null), (0, .ref a), (1, .int (zI 4)), (2, .int (zI x2)), (3, .int (zI x3))] dX10_choose_14 (by decide) rfl ?_
      refine j_aloadN hx 1 dX10_choose_16 rfl ?_
      refine j_ifnonnullN hx dX10_choose_18 ?_
      exact j_vret hx hq rfl (by decide) (by decide) dX10_choose_21 ⟨rfl, rfl, hS0, zFr_rf, trivial⟩
    · skip
      refine j_astore hx [(5, .ref r3), (4, .null), (0, .ref a), (1, .int (zI 4)), (2, .int (zI x2)), (3, .int (zI x3))] dX10_choose_14 (by decide) rfl ?_
      refine j_aloadN hx 1 dX10_choose_16 rfl ?_
      refine j_ifnonnullN hx dX10_choose_18 ?_
      exact j_vret hx hq rfl (by decide) (by decide) dX10_choose_21 ⟨rfl, rfl, hS0, zFr_rf, trivial⟩
  · skip
    refine j_astore hx [(4, .ref r1), (0, .ref a), (1, .int (zI 4)), (2, .int (zI x2)), (3, .int (zI x3))] dX10_choose_5 (by decide) rfl ?_
    refine j_aload_n hx 1 dX10_choose_7 rfl ?_
    refine j_iload_n hx 2 dX10_choose_8 rfl ?_
    refine j_iconst hx dX10_choose_9 ?_
    refine j_iadd hx (r := 5) dX10_choose_10 (by omega) ?_
    refine j_callV hx hG (c_X10_boardAt hst a 5) lk_RX10_22 ha (by decide) rfl rfl rfl rfl [.int (zI 5)] ⟨rfl, hG, hS0, ha, (by omega)⟩ rfl rfl ⟨by decide, by decide⟩ ⟨by decide, by decide⟩ (k2 := 0) (n2 := 0) rfl rfl (Nat.le_of_ble_eq_true rfl) dX10_choose_11 (kNP (fun _ => ?_) (fun r5 q6 => ?_))
    · skip
      refine j_astoreN hx [(5, .null), (4, .ref r1), (0, .ref a), (1, .int (zI 4)), (2, .int (zI x2)), (3, .int (zI x3))] dX10_choose_14 (by decide) rfl ?_
      refine j_aload hx 1 dX10_choose_16 rfl ?_
      refine j_ifnonnull hx 22 dX10_choose_18 rfl ?_
      refine j_aloadN hx 0 dX10_choose_22 rfl ?_
      have c35_1 : ∀ (s2 : zS), (zSK G s2) → (zFr [1, 7, 41] G s0 s2) → JJ X E 8 G s2 0 0 [(0, .ref a), (2, .int (zI x2)), (4, .ref r1)] 35 [] := by
        intro s2 hS_s2 hF_s2
        refine j_aload_n hx 0 dX10_choose_35 rfl ?_
        refine j_aload hx 2 dX10_choose_36 rfl ?_
        refine j_aload_n hx 0 dX10_choose_38 rfl ?_
        have f7 := zf hS0 ha (k := 2) rfl
        refine g11_2 hx hG ha kf_RX10_41 (v := (s0 a 2)) (by rw [(zFr_g hF_s2 ha (by decide))]) dX10_choose_39 ?_
        refine j_callV hx hG (c_X0_cardsOf hst r1 ((s0 a 2))) lk_RX10_58 q2.1 (by decide) rfl rfl rfl rfl [.int (zI ((s0 a 2)))] ⟨rfl, hG, hS_s2, q2.1, (by omega)⟩ rfl rfl ⟨by decide, by decide⟩ ⟨by decide, by decide⟩ (k2 := 0) (n2 := 0) rfl rfl (Nat.le_of_ble_eq_true rfl) dX10_choose_42 (kIP (fun v8 q9 => ?_))
        refine j_iload_n hx 1 dX10_choose_45 rfl ?_
        refine j_callV hx hG (c_X10_keepBetter hst a v8 x2) lk_RX10_62 ha (by decide) rfl rfl rfl rfl [.int (zI v8), .int (zI x2)] ⟨rfl, hG, hS_s2, ha, (by omega), (by omega)⟩ rfl rfl ⟨by decide, by decide⟩ ⟨by decide, by decide⟩ (k2 := 0) (n2 := 0) rfl rfl (Nat.le_of_ble_eq_true rfl) dX10_choose_46 (kVM (fun s5 hS_s5 hF_s5 q11 => ?_))
        exact j_vret hx hq rfl (by decide) (by decide) dX10_choose_49 ⟨rfl, rfl, hS_s5, (zFr_t (zFr_t zFr_rf hF_s2 (by decide)) hF_s5 (by decide)), trivial⟩
      refine j_ifnullN hx 35 dX10_choose_24 rfl ?_
      exact j_sub [2, 4, 1] [(0, .ref a), (2, .int (zI x2)), (4, .ref r1)] rfl (c35_1 s0 hS0 zFr_rf)
    · skip
      refine j_astore hx [(5, .ref r5), (4, .ref r1), (0, .ref a), (1, .int (zI 4)), (2, .int (zI x2)), (3, .int (zI x3))] dX10_choose_14 (by decide) rfl ?_
      refine j_aload hx 1 dX10_choose_16 rfl ?_
      refine j_ifnonnull hx 22 dX10_choose_18 rfl ?_
      refine j_aload hx 0 dX10_choose_22 rfl ?_
      have c35_6 : ∀ (s7 : zS), (zSK G s7) → (zFr [1, 7, 41] G s0 s7) → JJ X E 8 G s7 0 0 [(0, .ref a), (2, .int (zI x2)), (4, .ref r1)] 35 [] := by
        intro s7 hS_s7 hF_s7
        refine j_aload_n hx 0 dX10_choose_35 rfl ?_
        refine j_aload hx 2 dX10_choose_36 rfl ?_
        refine j_aload_n hx 0 dX10_choose_38 rfl ?_
        have f12 := zf hS0 ha (k := 2) rfl
        refine g11_2 hx hG ha kf_RX10_41 (v := (s0 a 2)) (by rw [(zFr_g hF_s7 ha (by decide))]) dX10_choose_39 ?_
        refine j_callV hx hG (c_X0_cardsOf hst r1 ((s0 a 2))) lk_RX10_58 q2.1 (by decide) rfl rfl rfl rfl [.int (zI ((s0 a 2)))] ⟨rfl, hG, hS_s7, q2.1, (by omega)⟩ rfl rfl ⟨by decide, by decide⟩ ⟨by decide, by decide⟩ (k2 := 0) (n2 := 0) rfl rfl (Nat.le_of_ble_eq_true rfl) dX10_choose_42 (kIP (fun v13 q14 => ?_))
        refine j_iload_n hx 1 dX10_choose_45 rfl ?_
        refine j_callV hx hG (c_X10_keepBetter hst a v13 x2) lk_RX10_62 ha (by decide) rfl rfl rfl rfl [.int (zI v13), .int (zI x2)] ⟨rfl, hG, hS_s7, ha, (by omega), (by omega)⟩ rfl rfl ⟨by decide, by decide⟩ ⟨by decide, by decide⟩ (k2 := 0) (n2 := 0) rfl rfl (Nat.le_of_ble_eq_true rfl) dX10_choose_46 (kVM (fun s10 hS_s10 hF_s10 q16 => ?_))
        exact j_vret hx hq rfl (by decide) (by decide) dX10_choose_49 ⟨rfl, rfl, hS_s10, (zFr_t (zFr_t zFr_rf hF_s7 (by decide)) hF_s10 (by decide)), trivial⟩
      refine j_ifnull hx dX10_choose_24 ?_
      refine j_aload hx 1 dX10_choose_27 rfl ?_
      refine j_callV hx hG (c_X0_step hst r1) lk_RX10_33 q2.1 (by decide) rfl rfl rfl rfl [] ⟨rfl, hG, hS0, q2.1⟩ rfl rfl ⟨by decide, by decide⟩ ⟨by decide, by decide⟩ (k2 := 0) (n2 := 0) rfl rfl (Nat.le_of_ble_eq_true rfl) dX10_choose_29 (kIM (fun v17 s11 hS_s11 hF_s11 q18 => ?_))
      refine j_if_ne hx 50 dX10_choose_32 rfl (by omega) (fun h19 => ?_) (fun h19 => ?_)
      · skip
        refine j_aload hx 1 dX10_choose_50 rfl ?_
        refine j_callV hx hG (c_X0_likeTops hst r1) lk_RX10_37 q2.1 (by decide) rfl rfl rfl rfl [] ⟨rfl, hG, hS_s11, q2.1⟩ rfl rfl ⟨by decide, by decide⟩ ⟨by decide, by decide⟩ (k2 := 0) (n2 := 0) rfl rfl (Nat.le_of_ble_eq_true rfl) dX10_choose_52 (kIP (fun v20 q21 => ?_))
        refine j_istore hx [(6, .int (zI v20)), (5, .ref r5), (4, .ref r1), (0, .ref a), (1, .int (zI 4)), (2, .int (zI x2)), (3, .int (zI x3))] dX10_choose_55 (by decide) rfl ?_
        refine j_aload hx 2 dX10_choose_57 rfl ?_
        refine j_aload_n hx 3 dX10_choose_59 rfl ?_
        have f22 := zf hS0 ha (k := 2) rfl
        refine g11_2 hx hG ha kf_RX10_41 (v := (s0 a 2)) (by rw [(zFr_g hF_s11 ha (by decide))]) dX10_choose_60 ?_
        refine j_callV hx hG (c_X0_following hst r1 ((s0 a 2))) lk_RX10_66 q2.1 (by decide) rfl rfl rfl rfl [.int (zI ((s0 a 2)))] ⟨rfl, hG, hS_s11, q2.1, (by omega)⟩ rfl rfl ⟨by decide, by decide⟩ ⟨by decide, by decide⟩ (k2 := 0) (n2 := 0) rfl rfl (Nat.le_of_ble_eq_true rfl) dX10_choose_63 (kIP (fun v23 q24 => ?_))
        refine j_istore hx [(7, .int (zI v23)), (6, .int (zI v20)), (5, .ref r5), (4, .ref r1), (0, .ref a), (1, .int (zI 4)), (2, .int (zI x2)), (3, .int (zI x3))] dX10_choose_66 (by decide) rfl ?_
        refine j_aload hx 2 dX10_choose_68 rfl ?_
        refine j_aload hx 3 dX10_choose_70 rfl ?_
        refine j_callV hx hG (c_X0_become hst r5 r1) lk_RX10_26 q6.1 (by decide) rfl rfl rfl rfl [.ref r1] ⟨rfl, hG, hS_s11, q6.1, q2.1⟩ rfl rfl ⟨by decide, by decide⟩ ⟨by decide, by decide⟩ (k2 := 0) (n2 := 0) rfl rfl (Nat.le_of_ble_eq_true rfl) dX10_choose_72 (kVM (fun s12 hS_s12 hF_s12 q26 => ?_))
        refine j_iload hx 1 dX10_choose_75 rfl ?_
        refine j_iconst hx dX10_choose_77 ?_
        have c101_13 : ∀ (s14 : zS), (zSK G s14) → (zFr [7, 41] G s12 s14) → JJ X E 8 G s14 0 0 [(0, .ref a), (1, .int (zI 4)), (2, .int (zI x2)), (3, .int (zI x3)), (4, .ref r1), (5, .ref r5), (6, .int (zI v20))] 101 [] := by
          intro s14 hS_s14 hF_s14
          refine j_aload_n hx 0 dX10_choose_101 rfl ?_
          refine j_iload_n hx 1 dX10_choose_102 rfl ?_
          refine j_iconst hx dX10_choose_103 ?_
          refine j_iadd hx (r := 5) dX10_choose_104 (by omega) ?_
          refine j_iload_n hx 2 dX10_choose_105 rfl ?_
          refine j_iload_n hx 3 dX10_choose_106 rfl ?_
          refine j_callV hx hG (c_X10_choose_5 hst a 5 x2 x3) lk_RX10_54 ha (by decide) rfl rfl rfl rfl [.int (zI 5), .int (zI x2), .int (zI x3)] ⟨rfl, hG, hS_s14, ha, (by omega), (by omega), (by omega)⟩ rfl rfl ⟨by decide, by decide⟩ ⟨by decide, by decide⟩ (k2 := 0) (n2 := 0) rfl rfl (Nat.le_of_ble_eq_true rfl) dX10_choose_107 (kVM (fun s17 hS_s17 hF_s17 q28 => ?_))
          refine j_iload hx 6 dX10_choose_110 rfl ?_
          refine j_iconst hx dX10_choose_112 ?_
          refine j_icmp_eq hx 170 dX10_choose_113 rfl (by omega) ⟨by decide, by decide⟩ (fun h29 => ?_) (fun h29 => ?_)
          · skip
            exact j_vret hx hq rfl (by decide) (by decide) dX10_choose_170 ⟨rfl, rfl, hS_s17, (zFr_t (zFr_t (zFr_t (zFr_t zFr_rf hF_s11 (by decide)) hF_s12 (by decide)) hF_s14 (by decide)) hF_s17 (by decide)), trivial⟩
          · skip
            refine j_iload_n hx 3 dX10_choose_116 rfl ?_
            refine j_if_le hx 170 dX10_choose_117 rfl (by omega) (fun h30 => ?_) (fun h30 => ?_)
            · skip
              exact j_vret hx hq rfl (by decide) (by decide) dX10_choose_170 ⟨rfl, rfl, hS_s17, (zFr_t (zFr_t (zFr_t (zFr_t zFr_rf hF_s11 (by decide)) hF_s12 (by decide)) hF_s14 (by decide)) hF_s17 (by decide)), trivial⟩
            · skip
              refine j_aload hx 4 dX10_choose_120 rfl ?_
              refine j_aload_n hx 0 dX10_choose_122 rfl ?_
              have f31 := zf hS_s17 ha (k := 2) rfl
              refine g11_2 hx hG ha kf_RX10_41 rfl dX10_choose_123 ?_
              refine j_callV hx hG (c_X0_isOut hst r1 ((s17 a 2))) lk_RX10_73 q2.1 (by decide) rfl rfl rfl rfl [.int (zI ((s17 a 2)))] ⟨rfl, hG, hS_s17, q2.1, (by omega)⟩ rfl rfl ⟨by decide, by decide⟩ ⟨by decide, by decide⟩ (k2 := 0) (n2 := 0) rfl rfl (Nat.le_of_ble_eq_true rfl) dX10_choose_126 (kIP (fun v32 q33 => ?_))
              refine j_if_ne hx 170 dX10_choose_129 rfl (by omega) (fun h34 => ?_) (fun h34 => ?_)
              · skip
                exact j_vret hx hq rfl (by decide) (by decide) dX10_choose_170 ⟨rfl, rfl, hS_s17, (zFr_t (zFr_t (zFr_t (zFr_t zFr_rf hF_s11 (by decide)) hF_s12 (by decide)) hF_s14 (by decide)) hF_s17 (by decide)), trivial⟩
              · skip
                refine j_aload hx 5 dX10_choose_132 rfl ?_
                refine j_aload hx 4 dX10_choose_134 rfl ?_
                refine j_callV hx hG (c_X0_become hst r5 r1) lk_RX10_26 q6.1 (by decide) rfl rfl rfl rfl [.ref r1] ⟨rfl, hG, hS_s17, q6.1, q2.1⟩ rfl rfl ⟨by decide, by decide⟩ ⟨by decide, by decide⟩ (k2 := 0) (n2 := 0) rfl rfl (Nat.le_of_ble_eq_true rfl) dX10_choose_136 (kVM (fun s18 hS_s18 hF_s18 q36 => ?_))
                refine j_aload hx 5 dX10_choose_139 rfl ?_
                refine j_aload_n hx 0 dX10_choose_141 rfl ?_
                refine g11_2 hx hG ha kf_RX10_41 (v := (s17 a 2)) (by rw [(zFr_g hF_s18 ha (by decide))]) dX10_choose_142 ?_
                refine j_iload hx 6 dX10_choose_145 rfl ?_
                refine j_aload_n hx 0 dX10_choose_147 rfl ?_
                have f37 := zf hS_s17 ha (k := 3) rfl
                refine g11_3 hx hG ha kf_RX10_45 (v := (s17 a 3)) (by rw [(zFr_g hF_s18 ha (by decide))]) dX10_choose_148 ?_
                refine j_callV hx hG (c_X0_win hst r5 ((s17 a 2)) v20 ((s17 a 3))) lk_RX10_69 q6.1 (by decide) rfl rfl rfl rfl [.int (zI ((s17 a 2))), .int (zI v20), .int (zI ((s17 a 3)))] ⟨rfl, hG, hS_s18, q6.1, (by omega), (by omega), (by omega)⟩ rfl rfl ⟨by decide, by decide⟩ ⟨by decide, by decide⟩ (k2 := 0) (n2 := 0) rfl rfl (Nat.le_of_ble_eq_true rfl) dX10_choose_151 (kIM (fun v38 s19 hS_s19 hF_s19 q39 => ?_))
                refine j_pop hx dX10_choose_154 rfl ?_
                refine j_aload_n hx 0 dX10_choose_155 rfl ?_
                refine j_iload_n hx 1 dX10_choose_156 rfl ?_
                refine j_iconst hx dX10_choose_157 ?_
                refine j_iadd hx (r := 5) dX10_choose_158 (by omega) ?_
                refine j_iload_n hx 2 dX10_choose_159 rfl ?_
                refine j_iconst hx dX10_choose_160 ?_
                refine j_iload_n hx 1 dX10_choose_161 rfl ?_
                refine j_ishl hx dX10_choose_162 (fun v40 f41 f42 => ?_)
                refine j_ior hx dX10_choose_163 (fun v43 f44 f45 => ?_)
                refine j_iload_n hx 3 dX10_choose_164 rfl ?_
                refine j_iconst hx dX10_choose_165 ?_
                refine j_isub hx (r := x3 - 1) dX10_choose_166 rfl ?_
                refine j_callV hx hG (c_X10_choose_5 hst a 5 v43 (x3 - 1)) lk_RX10_54 ha (by decide) rfl rfl rfl rfl [.int (zI 5), .int (zI v43), .int (zI (x3 - 1))] ⟨rfl, hG, hS_s19, ha, (by omega), (by omega), (by omega)⟩ rfl rfl ⟨by decide, by decide⟩ ⟨by decide, by decide⟩ (k2 := 0) (n2 := 0) rfl rfl (Nat.le_of_ble_eq_true rfl) dX10_choose_167 (kVM (fun s20 hS_s20 hF_s20 q47 => ?_))
                exact j_vret hx hq rfl (by decide) (by decide) dX10_choose_170 ⟨rfl, rfl, hS_s20, (zFr_t (zFr_t (zFr_t (zFr_t (zFr_t (zFr_t (zFr_t zFr_rf hF_s11 (by decide)) hF_s12 (by decide)) hF_s14 (by decide)) hF_s17 (by decide)) hF_s18 (by decide)) hF_s19 (by decide)) hF_s20 (by decide)), trivial⟩
        refine j_icmp_eq hx 101 dX10_choose_78 rfl (by omega) ⟨by decide, by decide⟩ (fun h48 => ?_) (fun h48 => ?_)
        · skip
          exact j_sub [4, 5, 6, 7, 3, 2, 1] [(0, .ref a), (1, .int (zI 4)), (2, .int (zI x2)), (3, .int (zI x3)), (4, .ref r1), (5, .ref r5), (6, .int (zI v20))] rfl (c101_13 s12 hS_s12 zFr_rf)
        · skip
          refine j_iload hx 0 dX10_choose_81 rfl ?_
          refine j_iconst hx dX10_choose_83 ?_
          refine j_icmp_eq hx 101 dX10_choose_84 rfl (by omega) ⟨by decide, by decide⟩ (fun h49 => ?_) (fun h49 => ?_)
          · skip
            exact j_sub [4, 5, 6, 7, 3, 2, 1] [(0, .ref a), (1, .int (zI 4)), (2, .int (zI x2)), (3, .int (zI x3)), (4, .ref r1), (5, .ref r5), (6, .int (zI v20))] rfl (c101_13 s12 hS_s12 zFr_rf)
          · skip
            refine j_aload hx 2 dX10_choose_87 rfl ?_
            refine j_iload hx 0 dX10_choose_89 rfl ?_
            refine j_iload hx 1 dX10_choose_91 rfl ?_
            refine j_aload_n hx 4 dX10_choose_93 rfl ?_
            have f50 := zf hS0 ha (k := 3) rfl
            refine g11_3 hx hG ha kf_RX10_45 (v := (s0 a 3)) (by rw [(zFr_g hF_s12 ha (by decide)), (zFr_g hF_s11 ha (by decide))]) dX10_choose_94 ?_
            refine j_callV hx hG (c_X0_win hst r5 v23 v20 ((s0 a 3))) lk_RX10_69 q6.1 (by decide) rfl rfl rfl rfl [.int (zI v23), .int (zI v20), .int (zI ((s0 a 3)))] ⟨rfl, hG, hS_s12, q6.1, (by omega), (by omega), (by omega)⟩ rfl rfl ⟨by decide, by decide⟩ ⟨by decide, by decide⟩ (k2 := 0) (n2 := 0) rfl rfl (Nat.le_of_ble_eq_true rfl) dX10_choose_97 (kIM (fun v51 s21 hS_s21 hF_s21 q52 => ?_))
            refine j_pop hx dX10_choose_100 rfl ?_
            exact j_sub [4, 5, 6, 7, 3, 2, 1] [(0, .ref a), (1, .int (zI 4)), (2, .int (zI x2)), (3, .int (zI x3)), (4, .ref r1), (5, .ref r5), (6, .int (zI v20))] rfl (c101_13 s21 hS_s21 (zFr_t zFr_rf hF_s21 (by decide)))
      · skip
        exact j_sub [2, 4, 1] [(0, .ref a), (2, .int (zI x2)), (4, .ref r1)] rfl (c35_6 s11 hS_s11 (zFr_t zFr_rf hF_s11 (by decide)))

set_option maxHeartbeats 4000000 in
set_option maxRecDepth 20000 in
theorem c_X10_choose_3 {E : zE} {l : Launch} (hst : l.stackTraces = false) (a : Nat) (x1 : Int) (x2 : Int) (x3 : Int) : Con E l yX10_choose cX10_choose 8 none { frames := 12, cells := 0, slots := 0, locals := 302 } (fun G s vs => vs = [.ref a, .int (zI x1), .int (zI x2), .int (zI x3)] ∧ zGK G ∧ zSK G s ∧ (gT G a = 11) ∧ (3 ≤ x1 ∧ x1 ≤ 3) ∧ ((-2147483648) ≤ x2 ∧ x2 ≤ 2147483647) ∧ (0 ≤ x3 ∧ x3 ≤ 4)) (fun G s _ => pV (fun G2 s2 => G2 = G ∧ zSK G s2 ∧ zFr [1, 7, 11, 41] G s s2 ∧ True)) := by
  refine Con.mk hst (by decide) (fun G s vs h => by rw [h.1]; exact Nat.le_of_ble_eq_true rfl) ?_
  rintro X G s0 vs ⟨rfl, hG, hS0, ha, hx1, hx2, hx3⟩ rfl hx hq
  obtain rfl : x1 = 3 := by omega
  show JJ X E 8 G s0 0 0 [(0, .ref a), (1, .int (zI 3)), (2, .int (zI x2)), (3, .int (zI x3))] 0 []
  refine j_aload_n hx 0 dX10_choose_0 rfl ?_
  refine j_iload_n hx 1 dX10_choose_1 rfl ?_
  refine j_callV hx hG (c_X10_boardAt hst a 3) lk_RX10_22 ha (by decide) rfl rfl rfl rfl [.int (zI 3)] ⟨rfl, hG, hS0, ha, (by omega)⟩ rfl rfl ⟨by decide, by decide⟩ ⟨by decide, by decide⟩ (k2 := 0) (n2 := 0) rfl rfl (Nat.le_of_ble_eq_true rfl) dX10_choose_2 (kNP (fun _ => ?_) (fun r1 q2 => ?_))
  · skip
    refine j_astoreN hx [(4, .null), (0, .ref a), (1, .int (zI 3)), (2, .int (zI x2)), (3, .int (zI x3))] dX10_choose_5 (by decide) rfl ?_
    refine j_aload_n hx 1 dX10_choose_7 rfl ?_
    refine j_iload_n hx 2 dX10_choose_8 rfl ?_
    refine j_iconst hx dX10_choose_9 ?_
    refine j_iadd hx (r := 4) dX10_choose_10 (by omega) ?_
    refine j_callV hx hG (c_X10_boardAt hst a 4) lk_RX10_22 ha (by decide) rfl rfl rfl rfl [.int (zI 4)] ⟨rfl, hG, hS0, ha, (by omega)⟩ rfl rfl ⟨by decide, by decide⟩ ⟨by decide, by decide⟩ (k2 := 0) (n2 := 0) rfl rfl (Nat.le_of_ble_eq_true rfl) dX10_choose_11 (kNP (fun _ => ?_) (fun r3 q4 => ?_))
    · skip
      refine j_astoreN hx [(5, .null), (4, .null), (0, .ref a), (1, .int (zI 3)), (2, .int (zI x2)), (3, .int (zI x3))] dX10_choose_14 (by decide) rfl ?_
      refine j_aloadN hx 1 dX10_choose_16 rfl ?_
      refine j_ifnonnullN hx dX10_choose_18 ?_
      exact j_vret hx hq rfl (by decide) (by decide) dX10_choose_21 ⟨rfl, rfl, hS0, zFr_rf, trivial⟩
    · skip
      refine j_astore hx [(5, .ref r3), (4, .null), (0, .ref a), (1, .int (zI 3)), (2, .int (zI x2)), (3, .int (zI x3))] dX10_choose_14 (by decide) rfl ?_
      refine j_aloadN hx 1 dX10_choose_16 rfl ?_
      refine j_ifnonnullN hx dX10_choose_18 ?_
      exact j_vret hx hq rfl (by decide) (by decide) dX10_choose_21 ⟨rfl, rfl, hS0, zFr_rf, trivial⟩
  · skip
    refine j_astore hx [(4, .ref r1), (0, .ref a), (1, .int (zI 3)), (2, .int (zI x2)), (3, .int (zI x3))] dX10_choose_5 (by decide) rfl ?_
    refine j_aload_n hx 1 dX10_choose_7 rfl ?_
    refine j_iload_n hx 2 dX10_choose_8 rfl ?_
    refine j_iconst hx dX10_choose_9 ?_
    refine j_iadd hx (r := 4) dX10_choose_10 (by omega) ?_
    refine j_callV hx hG (c_X10_boardAt hst a 4) lk_RX10_22 ha (by decide) rfl rfl rfl rfl [.int (zI 4)] ⟨rfl, hG, hS0, ha, (by omega)⟩ rfl rfl ⟨by decide, by decide⟩ ⟨by decide, by decide⟩ (k2 := 0) (n2 := 0) rfl rfl (Nat.le_of_ble_eq_true rfl) dX10_choose_11 (kNP (fun _ => ?_) (fun r5 q6 => ?_))
    · skip
      refine j_astoreN hx [(5, .null), (4, .ref r1), (0, .ref a), (1, .int (zI 3)), (2, .int (zI x2)), (3, .int (zI x3))] dX10_choose_14 (by decide) rfl ?_
      refine j_aload hx 1 dX10_choose_16 rfl ?_
      refine j_ifnonnull hx 22 dX10_choose_18 rfl ?_
      refine j_aloadN hx 0 dX10_choose_22 rfl ?_
      have c35_1 : ∀ (s2 : zS), (zSK G s2) → (zFr [1, 7, 41] G s0 s2) → JJ X E 8 G s2 0 0 [(0, .ref a), (2, .int (zI x2)), (4, .ref r1)] 35 [] := by
        intro s2 hS_s2 hF_s2
        refine j_aload_n hx 0 dX10_choose_35 rfl ?_
        refine j_aload hx 2 dX10_choose_36 rfl ?_
        refine j_aload_n hx 0 dX10_choose_38 rfl ?_
        have f7 := zf hS0 ha (k := 2) rfl
        refine g11_2 hx hG ha kf_RX10_41 (v := (s0 a 2)) (by rw [(zFr_g hF_s2 ha (by decide))]) dX10_choose_39 ?_
        refine j_callV hx hG (c_X0_cardsOf hst r1 ((s0 a 2))) lk_RX10_58 q2.1 (by decide) rfl rfl rfl rfl [.int (zI ((s0 a 2)))] ⟨rfl, hG, hS_s2, q2.1, (by omega)⟩ rfl rfl ⟨by decide, by decide⟩ ⟨by decide, by decide⟩ (k2 := 0) (n2 := 0) rfl rfl (Nat.le_of_ble_eq_true rfl) dX10_choose_42 (kIP (fun v8 q9 => ?_))
        refine j_iload_n hx 1 dX10_choose_45 rfl ?_
        refine j_callV hx hG (c_X10_keepBetter hst a v8 x2) lk_RX10_62 ha (by decide) rfl rfl rfl rfl [.int (zI v8), .int (zI x2)] ⟨rfl, hG, hS_s2, ha, (by omega), (by omega)⟩ rfl rfl ⟨by decide, by decide⟩ ⟨by decide, by decide⟩ (k2 := 0) (n2 := 0) rfl rfl (Nat.le_of_ble_eq_true rfl) dX10_choose_46 (kVM (fun s5 hS_s5 hF_s5 q11 => ?_))
        exact j_vret hx hq rfl (by decide) (by decide) dX10_choose_49 ⟨rfl, rfl, hS_s5, (zFr_t (zFr_t zFr_rf hF_s2 (by decide)) hF_s5 (by decide)), trivial⟩
      refine j_ifnullN hx 35 dX10_choose_24 rfl ?_
      exact j_sub [2, 4, 1] [(0, .ref a), (2, .int (zI x2)), (4, .ref r1)] rfl (c35_1 s0 hS0 zFr_rf)
    · skip
      refine j_astore hx [(5, .ref r5), (4, .ref r1), (0, .ref a), (1, .int (zI 3)), (2, .int (zI x2)), (3, .int (zI x3))] dX10_choose_14 (by decide) rfl ?_
      refine j_aload hx 1 dX10_choose_16 rfl ?_
      refine j_ifnonnull hx 22 dX10_choose_18 rfl ?_
      refine j_aload hx 0 dX10_choose_22 rfl ?_
      have c35_6 : ∀ (s7 : zS), (zSK G s7) → (zFr [1, 7, 41] G s0 s7) → JJ X E 8 G s7 0 0 [(0, .ref a), (2, .int (zI x2)), (4, .ref r1)] 35 [] := by
        intro s7 hS_s7 hF_s7
        refine j_aload_n hx 0 dX10_choose_35 rfl ?_
        refine j_aload hx 2 dX10_choose_36 rfl ?_
        refine j_aload_n hx 0 dX10_choose_38 rfl ?_
        have f12 := zf hS0 ha (k := 2) rfl
        refine g11_2 hx hG ha kf_RX10_41 (v := (s0 a 2)) (by rw [(zFr_g hF_s7 ha (by decide))]) dX10_choose_39 ?_
        refine j_callV hx hG (c_X0_cardsOf hst r1 ((s0 a 2))) lk_RX10_58 q2.1 (by decide) rfl rfl rfl rfl [.int (zI ((s0 a 2)))] ⟨rfl, hG, hS_s7, q2.1, (by omega)⟩ rfl rfl ⟨by decide, by decide⟩ ⟨by decide, by decide⟩ (k2 := 0) (n2 := 0) rfl rfl (Nat.le_of_ble_eq_true rfl) dX10_choose_42 (kIP (fun v13 q14 => ?_))
        refine j_iload_n hx 1 dX10_choose_45 rfl ?_
        refine j_callV hx hG (c_X10_keepBetter hst a v13 x2) lk_RX10_62 ha (by decide) rfl rfl rfl rfl [.int (zI v13), .int (zI x2)] ⟨rfl, hG, hS_s7, ha, (by omega), (by omega)⟩ rfl rfl ⟨by decide, by decide⟩ ⟨by decide, by decide⟩ (k2 := 0) (n2 := 0) rfl rfl (Nat.le_of_ble_eq_true rfl) dX10_choose_46 (kVM (fun s10 hS_s10 hF_s10 q16 => ?_))
        exact j_vret hx hq rfl (by decide) (by decide) dX10_choose_49 ⟨rfl, rfl, hS_s10, (zFr_t (zFr_t zFr_rf hF_s7 (by decide)) hF_s10 (by decide)), trivial⟩
      refine j_ifnull hx dX10_choose_24 ?_
      refine j_aload hx 1 dX10_choose_27 rfl ?_
      refine j_callV hx hG (c_X0_step hst r1) lk_RX10_33 q2.1 (by decide) rfl rfl rfl rfl [] ⟨rfl, hG, hS0, q2.1⟩ rfl rfl ⟨by decide, by decide⟩ ⟨by decide, by decide⟩ (k2 := 0) (n2 := 0) rfl rfl (Nat.le_of_ble_eq_true rfl) dX10_choose_29 (kIM (fun v17 s11 hS_s11 hF_s11 q18 => ?_))
      refine j_if_ne hx 50 dX10_choose_32 rfl (by omega) (fun h19 => ?_) (fun h19 => ?_)
      · skip
        refine j_aload hx 1 dX10_choose_50 rfl ?_
        refine j_callV hx hG (c_X0_likeTops hst r1) lk_RX10_37 q2.1 (by decide) rfl rfl rfl rfl [] ⟨rfl, hG, hS_s11, q2.1⟩ rfl rfl ⟨by decide, by decide⟩ ⟨by decide, by decide⟩ (k2 := 0) (n2 := 0) rfl rfl (Nat.le_of_ble_eq_true rfl) dX10_choose_52 (kIP (fun v20 q21 => ?_))
        refine j_istore hx [(6, .int (zI v20)), (5, .ref r5), (4, .ref r1), (0, .ref a), (1, .int (zI 3)), (2, .int (zI x2)), (3, .int (zI x3))] dX10_choose_55 (by decide) rfl ?_
        refine j_aload hx 2 dX10_choose_57 rfl ?_
        refine j_aload_n hx 3 dX10_choose_59 rfl ?_
        have f22 := zf hS0 ha (k := 2) rfl
        refine g11_2 hx hG ha kf_RX10_41 (v := (s0 a 2)) (by rw [(zFr_g hF_s11 ha (by decide))]) dX10_choose_60 ?_
        refine j_callV hx hG (c_X0_following hst r1 ((s0 a 2))) lk_RX10_66 q2.1 (by decide) rfl rfl rfl rfl [.int (zI ((s0 a 2)))] ⟨rfl, hG, hS_s11, q2.1, (by omega)⟩ rfl rfl ⟨by decide, by decide⟩ ⟨by decide, by decide⟩ (k2 := 0) (n2 := 0) rfl rfl (Nat.le_of_ble_eq_true rfl) dX10_choose_63 (kIP (fun v23 q24 => ?_))
        refine j_istore hx [(7, .int (zI v23)), (6, .int (zI v20)), (5, .ref r5), (4, .ref r1), (0, .ref a), (1, .int (zI 3)), (2, .int (zI x2)), (3, .int (zI x3))] dX10_choose_66 (by decide) rfl ?_
        refine j_aload hx 2 dX10_choose_68 rfl ?_
        refine j_aload hx 3 dX10_choose_70 rfl ?_
        refine j_callV hx hG (c_X0_become hst r5 r1) lk_RX10_26 q6.1 (by decide) rfl rfl rfl rfl [.ref r1] ⟨rfl, hG, hS_s11, q6.1, q2.1⟩ rfl rfl ⟨by decide, by decide⟩ ⟨by decide, by decide⟩ (k2 := 0) (n2 := 0) rfl rfl (Nat.le_of_ble_eq_true rfl) dX10_choose_72 (kVM (fun s12 hS_s12 hF_s12 q26 => ?_))
        refine j_iload hx 1 dX10_choose_75 rfl ?_
        refine j_iconst hx dX10_choose_77 ?_
        have c101_13 : ∀ (s14 : zS), (zSK G s14) → (zFr [7, 41] G s12 s14) → JJ X E 8 G s14 0 0 [(0, .ref a), (1, .int (zI 3)), (2, .int (zI x2)), (3, .int (zI x3)), (4, .ref r1), (5, .ref r5), (6, .int (zI v20))] 101 [] := by
          intro s14 hS_s14 hF_s14
          refine j_aload_n hx 0 dX10_choose_101 rfl ?_
          refine j_iload_n hx 1 dX10_choose_102 rfl ?_
          refine j_iconst hx dX10_choose_103 ?_
          refine j_iadd hx (r := 4) dX10_choose_104 (by omega) ?_
          refine j_iload_n hx 2 dX10_choose_105 rfl ?_
          refine j_iload_n hx 3 dX10_choose_106 rfl ?_
          refine j_callV hx hG (c_X10_choose_4 hst a 4 x2 x3) lk_RX10_54 ha (by decide) rfl rfl rfl rfl [.int (zI 4), .int (zI x2), .int (zI x3)] ⟨rfl, hG, hS_s14, ha, (by omega), (by omega), (by omega)⟩ rfl rfl ⟨by decide, by decide⟩ ⟨by decide, by decide⟩ (k2 := 0) (n2 := 0) rfl rfl (Nat.le_of_ble_eq_true rfl) dX10_choose_107 (kVM (fun s17 hS_s17 hF_s17 q28 => ?_))
          refine j_iload hx 6 dX10_choose_110 rfl ?_
          refine j_iconst hx dX10_choose_112 ?_
          refine j_icmp_eq hx 170 dX10_choose_113 rfl (by omega) ⟨by decide, by decide⟩ (fun h29 => ?_) (fun h29 => ?_)
          · skip
            exact j_vret hx hq rfl (by decide) (by decide) dX10_choose_170 ⟨rfl, rfl, hS_s17, (zFr_t (zFr_t (zFr_t (zFr_t zFr_rf hF_s11 (by decide)) hF_s12 (by decide)) hF_s14 (by decide)) hF_s17 (by decide)), trivial⟩
          · skip
            refine j_iload_n hx 3 dX10_choose_116 rfl ?_
            refine j_if_le hx 170 dX10_choose_117 rfl (by omega) (fun h30 => ?_) (fun h30 => ?_)
            · skip
              exact j_vret hx hq rfl (by decide) (by decide) dX10_choose_170 ⟨rfl, rfl, hS_s17, (zFr_t (zFr_t (zFr_t (zFr_t zFr_rf hF_s11 (by decide)) hF_s12 (by decide)) hF_s14 (by decide)) hF_s17 (by decide)), trivial⟩
            · skip
              refine j_aload hx 4 dX10_choose_120 rfl ?_
              refine j_aload_n hx 0 dX10_choose_122 rfl ?_
              have f31 := zf hS_s17 ha (k := 2) rfl
              refine g11_2 hx hG ha kf_RX10_41 rfl dX10_choose_123 ?_
              refine j_callV hx hG (c_X0_isOut hst r1 ((s17 a 2))) lk_RX10_73 q2.1 (by decide) rfl rfl rfl rfl [.int (zI ((s17 a 2)))] ⟨rfl, hG, hS_s17, q2.1, (by omega)⟩ rfl rfl ⟨by decide, by decide⟩ ⟨by decide, by decide⟩ (k2 := 0) (n2 := 0) rfl rfl (Nat.le_of_ble_eq_true rfl) dX10_choose_126 (kIP (fun v32 q33 => ?_))
              refine j_if_ne hx 170 dX10_choose_129 rfl (by omega) (fun h34 => ?_) (fun h34 => ?_)
              · skip
                exact j_vret hx hq rfl (by decide) (by decide) dX10_choose_170 ⟨rfl, rfl, hS_s17, (zFr_t (zFr_t (zFr_t (zFr_t zFr_rf hF_s11 (by decide)) hF_s12 (by decide)) hF_s14 (by decide)) hF_s17 (by decide)), trivial⟩
              · skip
                refine j_aload hx 5 dX10_choose_132 rfl ?_
                refine j_aload hx 4 dX10_choose_134 rfl ?_
                refine j_callV hx hG (c_X0_become hst r5 r1) lk_RX10_26 q6.1 (by decide) rfl rfl rfl rfl [.ref r1] ⟨rfl, hG, hS_s17, q6.1, q2.1⟩ rfl rfl ⟨by decide, by decide⟩ ⟨by decide, by decide⟩ (k2 := 0) (n2 := 0) rfl rfl (Nat.le_of_ble_eq_true rfl) dX10_choose_136 (kVM (fun s18 hS_s18 hF_s18 q36 => ?_))
                refine j_aload hx 5 dX10_choose_139 rfl ?_
                refine j_aload_n hx 0 dX10_choose_141 rfl ?_
                refine g11_2 hx hG ha kf_RX10_41 (v := (s17 a 2)) (by rw [(zFr_g hF_s18 ha (by decide))]) dX10_choose_142 ?_
                refine j_iload hx 6 dX10_choose_145 rfl ?_
                refine j_aload_n hx 0 dX10_choose_147 rfl ?_
                have f37 := zf hS_s17 ha (k := 3) rfl
                refine g11_3 hx hG ha kf_RX10_45 (v := (s17 a 3)) (by rw [(zFr_g hF_s18 ha (by decide))]) dX10_choose_148 ?_
                refine j_callV hx hG (c_X0_win hst r5 ((s17 a 2)) v20 ((s17 a 3))) lk_RX10_69 q6.1 (by decide) rfl rfl rfl rfl [.int (zI ((s17 a 2))), .int (zI v20), .int (zI ((s17 a 3)))] ⟨rfl, hG, hS_s18, q6.1, (by omega), (by omega), (by omega)⟩ rfl rfl ⟨by decide, by decide⟩ ⟨by decide, by decide⟩ (k2 := 0) (n2 := 0) rfl rfl (Nat.le_of_ble_eq_true rfl) dX10_choose_151 (kIM (fun v38 s19 hS_s19 hF_s19 q39 => ?_))
                refine j_pop hx dX10_choose_154 rfl ?_
                refine j_aload_n hx 0 dX10_choose_155 rfl ?_
                refine j_iload_n hx 1 dX10_choose_156 rfl ?_
                refine j_iconst hx dX10_choose_157 ?_
                refine j_iadd hx (r := 4) dX10_choose_158 (by omega) ?_
                refine j_iload_n hx 2 dX10_choose_159 rfl ?_
                refine j_iconst hx dX10_choose_160 ?_
                refine j_iload_n hx 1 dX10_choose_161 rfl ?_
                refine j_ishl hx dX10_choose_162 (fun v40 f41 f42 => ?_)
                refine j_ior hx dX10_choose_163 (fun v43 f44 f45 => ?_)
                refine j_iload_n hx 3 dX10_choose_164 rfl ?_
                refine j_iconst hx dX10_choose_165 ?_
                refine j_isub hx (r := x3 - 1) dX10_choose_166 rfl ?_
                refine j_callV hx hG (c_X10_choose_4 hst a 4 v43 (x3 - 1)) lk_RX10_54 ha (by decide) rfl rfl rfl rfl [.int (zI 4), .int (zI v43), .int (zI (x3 - 1))] ⟨rfl, hG, hS_s19, ha, (by omega), (by omega), (by omega)⟩ rfl rfl ⟨by decide, by decide⟩ ⟨by decide, by decide⟩ (k2 := 0) (n2 := 0) rfl rfl (Nat.le_of_ble_eq_true rfl) dX10_choose_167 (kVM (fun s20 hS_s20 hF_s20 q47 => ?_))
                exact j_vret hx hq rfl (by decide) (by decide) dX10_choose_170 ⟨rfl, rfl, hS_s20, (zFr_t (zFr_t (zFr_t (zFr_t (zFr_t (zFr_t (zFr_t zFr_rf hF_s11 (by decide)) hF_s12 (by decide)) hF_s14 (by decide)) hF_s17 (by decide)) hF_s18 (by decide)) hF_s19 (by decide)) hF_s20 (by decide)), trivial⟩
        refine j_icmp_eq hx 101 dX10_choose_78 rfl (by omega) ⟨by decide, by decide⟩ (fun h48 => ?_) (fun h48 => ?_)
        · skip
          exact j_sub [4, 5, 6, 7, 3, 2, 1] [(0, .ref a), (1, .int (zI 3)), (2, .int (zI x2)), (3, .int (zI x3)), (4, .ref r1), (5, .ref r5), (6, .int (zI v20))] rfl (c101_13 s12 hS_s12 zFr_rf)
        · skip
          refine j_iload hx 0 dX10_choose_81 rfl ?_
          refine j_iconst hx dX10_choose_83 ?_
          refine j_icmp_eq hx 101 dX10_choose_84 rfl (by omega) ⟨by decide, by decide⟩ (fun h49 => ?_) (fun h49 => ?_)
          · skip
            exact j_sub [4, 5, 6, 7, 3, 2, 1] [(0, .ref a), (1, .int (zI 3)), (2, .int (zI x2)), (3, .int (zI x3)), (4, .ref r1), (5, .ref r5), (6, .int (zI v20))] rfl (c101_13 s12 hS_s12 zFr_rf)
          · skip
            refine j_aload hx 2 dX10_choose_87 rfl ?_
            refine j_iload hx 0 dX10_choose_89 rfl ?_
            refine j_iload hx 1 dX10_choose_91 rfl ?_
            refine j_aload_n hx 4 dX10_choose_93 rfl ?_
            have f50 := zf hS0 ha (k := 3) rfl
            refine g11_3 hx hG ha kf_RX10_45 (v := (s0 a 3)) (by rw [(zFr_g hF_s12 ha (by decide)), (zFr_g hF_s11 ha (by decide))]) dX10_choose_94 ?_
            refine j_callV hx hG (c_X0_win hst r5 v23 v20 ((s0 a 3))) lk_RX10_69 q6.1 (by decide) rfl rfl rfl rfl [.int (zI v23), .int (zI v20), .int (zI ((s0 a 3)))] ⟨rfl, hG, hS_s12, q6.1, (by omega), (by omega), (by omega)⟩ rfl rfl ⟨by decide, by decide⟩ ⟨by decide, by decide⟩ (k2 := 0) (n2 := 0) rfl rfl (Nat.le_of_ble_eq_true rfl) dX10_choose_97 (kIM (fun v51 s21 hS_s21 hF_s21 q52 => ?_))
            refine j_pop hx dX10_choose_100 rfl ?_
            exact j_sub [4, 5, 6, 7, 3, 2, 1] [(0, .ref a), (1, .int (zI 3)), (2, .int (zI x2)), (3, .int (zI x3)), (4, .ref r1), (5, .ref r5), (6, .int (zI v20))] rfl (c101_13 s21 hS_s21 (zFr_t zFr_rf hF_s21 (by decide)))
      · skip
        exact j_sub [2, 4, 1] [(0, .ref a), (2, .int (zI x2)), (4, .ref r1)] rfl (c35_6 s11 hS_s11 (zFr_t zFr_rf hF_s11 (by decide)))

set_option maxHeartbeats 4000000 in
set_option maxRecDepth 20000 in
theorem c_X10_choose_2 {E : zE} {l : Launch} (hst : l.stackTraces = false) (a : Nat) (x1 : Int) (x2 : Int) (x3 : Int) : Con E l yX10_choose cX10_choose 8 none { frames := 13, cells := 0, slots := 0, locals := 329 } (fun G s vs => vs = [.ref a, .int (zI x1), .int (zI x2), .int (zI x3)] ∧ zGK G ∧ zSK G s ∧ (gT G a = 11) ∧ (2 ≤ x1 ∧ x1 ≤ 2) ∧ ((-2147483648) ≤ x2 ∧ x2 ≤ 2147483647) ∧ (0 ≤ x3 ∧ x3 ≤ 4)) (fun G s _ => pV (fun G2 s2 => G2 = G ∧ zSK G s2 ∧ zFr [1, 7, 11, 41] G s s2 ∧ True)) := by
  refine Con.mk hst (by decide) (fun G s vs h => by rw [h.1]; exact Nat.le_of_ble_eq_true rfl) ?_
  rintro X G s0 vs ⟨rfl, hG, hS0, ha, hx1, hx2, hx3⟩ rfl hx hq
  obtain rfl : x1 = 2 := by omega
  show JJ X E 8 G s0 0 0 [(0, .ref a), (1, .int (zI 2)), (2, .int (zI x2)), (3, .int (zI x3))] 0 []
  refine j_aload_n hx 0 dX10_choose_0 rfl ?_
  refine j_iload_n hx 1 dX10_choose_1 rfl ?_
  refine j_callV hx hG (c_X10_boardAt hst a 2) lk_RX10_22 ha (by decide) rfl rfl rfl rfl [.int (zI 2)] ⟨rfl, hG, hS0, ha, (by omega)⟩ rfl rfl ⟨by decide, by decide⟩ ⟨by decide, by decide⟩ (k2 := 0) (n2 := 0) rfl rfl (Nat.le_of_ble_eq_true rfl) dX10_choose_2 (kNP (fun _ => ?_) (fun r1 q2 => ?_))
  · skip
    refine j_astoreN hx [(4, .null), (0, .ref a), (1, .int (zI 2)), (2, .int (zI x2)), (3, .int (zI x3))] dX10_choose_5 (by decide) rfl ?_
    refine j_aload_n hx 1 dX10_choose_7 rfl ?_
    refine j_iload_n hx 2 dX10_choose_8 rfl ?_
    refine j_iconst hx dX10_choose_9 ?_
    refine j_iadd hx (r := 3) dX10_choose_10 (by omega) ?_
    refine j_callV hx hG (c_X10_boardAt hst a 3) lk_RX10_22 ha (by decide) rfl rfl rfl rfl [.int (zI 3)] ⟨rfl, hG, hS0, ha, (by omega)⟩ rfl rfl ⟨by decide, by decide⟩ ⟨by decide, by decide⟩ (k2 := 0) (n2 := 0) rfl rfl (Nat.le_of_ble_eq_true rfl) dX10_choose_11 (kNP (fun _ => ?_) (fun r3 q4 => ?_))
    · skip
      refine j_astoreN hx [(5, .null), (4, .null), (0, .ref a), (1, .int (zI 2)), (2, .int (zI x2)), (3, .int (zI x3))] dX10_choose_14 (by decide) rfl ?_
      refine j_aloadN hx 1 dX10_choose_16 rfl ?_
      refine j_ifnonnullN hx dX10_choose_18 ?_
      exact j_vret hx hq rfl (by decide) (by decide) dX10_choose_21 ⟨rfl, rfl, hS0, zFr_rf, trivial⟩
    · skip
      refine j_astore hx [(5, .ref r3), (4, .null), (0, .ref a), (1, .int (zI 2)), (2, .int (zI x2)), (3, .int (zI x3))] dX10_choose_14 (by decide) rfl ?_
      refine j_aloadN hx 1 dX10_choose_16 rfl ?_
      refine j_ifnonnullN hx dX10_choose_18 ?_
      exact j_vret hx hq rfl (by decide) (by decide) dX10_choose_21 ⟨rfl, rfl, hS0, zFr_rf, trivial⟩
  · skip
    refine j_astore hx [(4, .ref r1), (0, .ref a), (1, .int (zI 2)), (2, .int (zI x2)), (3, .int (zI x3))] dX10_choose_5 (by decide) rfl ?_
    refine j_aload_n hx 1 dX10_choose_7 rfl ?_
    refine j_iload_n hx 2 dX10_choose_8 rfl ?_
    refine j_iconst hx dX10_choose_9 ?_
    refine j_iadd hx (r := 3) dX10_choose_10 (by omega) ?_
    refine j_callV hx hG (c_X10_boardAt hst a 3) lk_RX10_22 ha (by decide) rfl rfl rfl rfl [.int (zI 3)] ⟨rfl, hG, hS0, ha, (by omega)⟩ rfl rfl ⟨by decide, by decide⟩ ⟨by decide, by decide⟩ (k2 := 0) (n2 := 0) rfl rfl (Nat.le_of_ble_eq_true rfl) dX10_choose_11 (kNP (fun _ => ?_) (fun r5 q6 => ?_))
    · skip
      refine j_astoreN hx [(5, .null), (4, .ref r1), (0, .ref a), (1, .int (zI 2)), (2, .int (zI x2)), (3, .int (zI x3))] dX10_choose_14 (by decide) rfl ?_
      refine j_aload hx 1 dX10_choose_16 rfl ?_
      refine j_ifnonnull hx 22 dX10_choose_18 rfl ?_
      refine j_aloadN hx 0 dX10_choose_22 rfl ?_
      have c35_1 : ∀ (s2 : zS), (zSK G s2) → (zFr [1, 7, 41] G s0 s2) → JJ X E 8 G s2 0 0 [(0, .ref a), (2, .int (zI x2)), (4, .ref r1)] 35 [] := by
        intro s2 hS_s2 hF_s2
        refine j_aload_n hx 0 dX10_choose_35 rfl ?_
        refine j_aload hx 2 dX10_choose_36 rfl ?_
        refine j_aload_n hx 0 dX10_choose_38 rfl ?_
        have f7 := zf hS0 ha (k := 2) rfl
        refine g11_2 hx hG ha kf_RX10_41 (v := (s0 a 2)) (by rw [(zFr_g hF_s2 ha (by decide))]) dX10_choose_39 ?_
        refine j_callV hx hG (c_X0_cardsOf hst r1 ((s0 a 2))) lk_RX10_58 q2.1 (by decide) rfl rfl rfl rfl [.int (zI ((s0 a 2)))] ⟨rfl, hG, hS_s2, q2.1, (by omega)⟩ rfl rfl ⟨by decide, by decide⟩ ⟨by decide, by decide⟩ (k2 := 0) (n2 := 0) rfl rfl (Nat.le_of_ble_eq_true rfl) dX10_choose_42 (kIP (fun v8 q9 => ?_))
        refine j_iload_n hx 1 dX10_choose_45 rfl ?_
        refine j_callV hx hG (c_X10_keepBetter hst a v8 x2) lk_RX10_62 ha (by decide) rfl rfl rfl rfl [.int (zI v8), .int (zI x2)] ⟨rfl, hG, hS_s2, ha, (by omega), (by omega)⟩ rfl rfl ⟨by decide, by decide⟩ ⟨by decide, by decide⟩ (k2 := 0) (n2 := 0) rfl rfl (Nat.le_of_ble_eq_true rfl) dX10_choose_46 (kVM (fun s5 hS_s5 hF_s5 q11 => ?_))
        exact j_vret hx hq rfl (by decide) (by decide) dX10_choose_49 ⟨rfl, rfl, hS_s5, (zFr_t (zFr_t zFr_rf hF_s2 (by decide)) hF_s5 (by decide)), trivial⟩
      refine j_ifnullN hx 35 dX10_choose_24 rfl ?_
      exact j_sub [2, 4, 1] [(0, .ref a), (2, .int (zI x2)), (4, .ref r1)] rfl (c35_1 s0 hS0 zFr_rf)
    · skip
      refine j_astore hx [(5, .ref r5), (4, .ref r1), (0, .ref a), (1, .int (zI 2)), (2, .int (zI x2)), (3, .int (zI x3))] dX10_choose_14 (by decide) rfl ?_
      refine j_aload hx 1 dX10_choose_16 rfl ?_
      refine j_ifnonnull hx 22 dX10_choose_18 rfl ?_
      refine j_aload hx 0 dX10_choose_22 rfl ?_
      have c35_6 : ∀ (s7 : zS), (zSK G s7) → (zFr [1, 7, 41] G s0 s7) → JJ X E 8 G s7 0 0 [(0, .ref a), (2, .int (zI x2)), (4, .ref r1)] 35 [] := by
        intro s7 hS_s7 hF_s7
        refine j_aload_n hx 0 dX10_choose_35 rfl ?_
        refine j_aload hx 2 dX10_choose_36 rfl ?_
        refine j_aload_n hx 0 dX10_choose_38 rfl ?_
        have f12 := zf hS0 ha (k := 2) rfl
        refine g11_2 hx hG ha kf_RX10_41 (v := (s0 a 2)) (by rw [(zFr_g hF_s7 ha (by decide))]) dX10_choose_39 ?_
        refine j_callV hx hG (c_X0_cardsOf hst r1 ((s0 a 2))) lk_RX10_58 q2.1 (by decide) rfl rfl rfl rfl [.int (zI ((s0 a 2)))] ⟨rfl, hG, hS_s7, q2.1, (by omega)⟩ rfl rfl ⟨by decide, by decide⟩ ⟨by decide, by decide⟩ (k2 := 0) (n2 := 0) rfl rfl (Nat.le_of_ble_eq_true rfl) dX10_choose_42 (kIP (fun v13 q14 => ?_))
        refine j_iload_n hx 1 dX10_choose_45 rfl ?_
        refine j_callV hx hG (c_X10_keepBetter hst a v13 x2) lk_RX10_62 ha (by decide) rfl rfl rfl rfl [.int (zI v13), .int (zI x2)] ⟨rfl, hG, hS_s7, ha, (by omega), (by omega)⟩ rfl rfl ⟨by decide, by decide⟩ ⟨by decide, by decide⟩ (k2 := 0) (n2 := 0) rfl rfl (Nat.le_of_ble_eq_true rfl) dX10_choose_46 (kVM (fun s10 hS_s10 hF_s10 q16 => ?_))
        exact j_vret hx hq rfl (by decide) (by decide) dX10_choose_49 ⟨rfl, rfl, hS_s10, (zFr_t (zFr_t zFr_rf hF_s7 (by decide)) hF_s10 (by decide)), trivial⟩
      refine j_ifnull hx dX10_choose_24 ?_
      refine j_aload hx 1 dX10_choose_27 rfl ?_
      refine j_callV hx hG (c_X0_step hst r1) lk_RX10_33 q2.1 (by decide) rfl rfl rfl rfl [] ⟨rfl, hG, hS0, q2.1⟩ rfl rfl ⟨by decide, by decide⟩ ⟨by decide, by decide⟩ (k2 := 0) (n2 := 0) rfl rfl (Nat.le_of_ble_eq_true rfl) dX10_choose_29 (kIM (fun v17 s11 hS_s11 hF_s11 q18 => ?_))
      refine j_if_ne hx 50 dX10_choose_32 rfl (by omega) (fun h19 => ?_) (fun h19 => ?_)
      · skip
        refine j_aload hx 1 dX10_choose_50 rfl ?_
        refine j_callV hx hG (c_X0_likeTops hst r1) lk_RX10_37 q2.1 (by decide) rfl rfl rfl rfl [] ⟨rfl, hG, hS_s11, q2.1⟩ rfl rfl ⟨by decide, by decide⟩ ⟨by decide, by decide⟩ (k2 := 0) (n2 := 0) rfl rfl (Nat.le_of_ble_eq_true rfl) dX10_choose_52 (kIP (fun v20 q21 => ?_))
        refine j_istore hx [(6, .int (zI v20)), (5, .ref r5), (4, .ref r1), (0, .ref a), (1, .int (zI 2)), (2, .int (zI x2)), (3, .int (zI x3))] dX10_choose_55 (by decide) rfl ?_
        refine j_aload hx 2 dX10_choose_57 rfl ?_
        refine j_aload_n hx 3 dX10_choose_59 rfl ?_
        have f22 := zf hS0 ha (k := 2) rfl
        refine g11_2 hx hG ha kf_RX10_41 (v := (s0 a 2)) (by rw [(zFr_g hF_s11 ha (by decide))]) dX10_choose_60 ?_
        refine j_callV hx hG (c_X0_following hst r1 ((s0 a 2))) lk_RX10_66 q2.1 (by decide) rfl rfl rfl rfl [.int (zI ((s0 a 2)))] ⟨rfl, hG, hS_s11, q2.1, (by omega)⟩ rfl rfl ⟨by decide, by decide⟩ ⟨by decide, by decide⟩ (k2 := 0) (n2 := 0) rfl rfl (Nat.le_of_ble_eq_true rfl) dX10_choose_63 (kIP (fun v23 q24 => ?_))
        refine j_istore hx [(7, .int (zI v23)), (6, .int (zI v20)), (5, .ref r5), (4, .ref r1), (0, .ref a), (1, .int (zI 2)), (2, .int (zI x2)), (3, .int (zI x3))] dX10_choose_66 (by decide) rfl ?_
        refine j_aload hx 2 dX10_choose_68 rfl ?_
        refine j_aload hx 3 dX10_choose_70 rfl ?_
        refine j_callV hx hG (c_X0_become hst r5 r1) lk_RX10_26 q6.1 (by decide) rfl rfl rfl rfl [.ref r1] ⟨rfl, hG, hS_s11, q6.1, q2.1⟩ rfl rfl ⟨by decide, by decide⟩ ⟨by decide, by decide⟩ (k2 := 0) (n2 := 0) rfl rfl (Nat.le_of_ble_eq_true rfl) dX10_choose_72 (kVM (fun s12 hS_s12 hF_s12 q26 => ?_))
        refine j_iload hx 1 dX10_choose_75 rfl ?_
        refine j_iconst hx dX10_choose_77 ?_
        have c101_13 : ∀ (s14 : zS), (zSK G s14) → (zFr [7, 41] G s12 s14) → JJ X E 8 G s14 0 0 [(0, .ref a), (1, .int (zI 2)), (2, .int (zI x2)), (3, .int (zI x3)), (4, .ref r1), (5, .ref r5), (6, .int (zI v20))] 101 [] := by
          intro s14 hS_s14 hF_s14
          refine j_aload_n hx 0 dX10_choose_101 rfl ?_
          refine j_iload_n hx 1 dX10_choose_102 rfl ?_
          refine j_iconst hx dX10_choose_103 ?_
          refine j_iadd hx (r := 3) dX10_choose_104 (by omega) ?_
          refine j_iload_n hx 2 dX10_choose_105 rfl ?_
          refine j_iload_n hx 3 dX10_choose_106 rfl ?_
          refine j_callV hx hG (c_X10_choose_3 hst a 3 x2 x3) lk_RX10_54 ha (by decide) rfl rfl rfl rfl [.int (zI 3), .int (zI x2), .int (zI x3)] ⟨rfl, hG, hS_s14, ha, (by omega), (by omega), (by omega)⟩ rfl rfl ⟨by decide, by decide⟩ ⟨by decide, by decide⟩ (k2 := 0) (n2 := 0) rfl rfl (Nat.le_of_ble_eq_true rfl) dX10_choose_107 (kVM (fun s17 hS_s17 hF_s17 q28 => ?_))
          refine j_iload hx 6 dX10_choose_110 rfl ?_
          refine j_iconst hx dX10_choose_112 ?_
          refine j_icmp_eq hx 170 dX10_choose_113 rfl (by omega) ⟨by decide, by decide⟩ (fun h29 => ?_) (fun h29 => ?_)
          · skip
            exact j_vret hx hq rfl (by decide) (by decide) dX10_choose_170 ⟨rfl, rfl, hS_s17, (zFr_t (zFr_t (zFr_t (zFr_t zFr_rf hF_s11 (by decide)) hF_s12 (by decide)) hF_s14 (by decide)) hF_s17 (by decide)), trivial⟩
          · skip
            refine j_iload_n hx 3 dX10_choose_116 rfl ?_
            refine j_if_le hx 170 dX10_choose_117 rfl (by omega) (fun h30 => ?_) (fun h30 => ?_)
            · skip
              exact j_vret hx hq rfl (by decide) (by decide) dX10_choose_170 ⟨rfl, rfl, hS_s17, (zFr_t (zFr_t (zFr_t (zFr_t zFr_rf hF_s11 (by decide)) hF_s12 (by decide)) hF_s14 (by decide)) hF_s17 (by decide)), trivial⟩
            · skip
              refine j_aload hx 4 dX10_choose_120 rfl ?_
              refine j_aload_n hx 0 dX10_choose_122 rfl ?_
              have f31 := zf hS_s17 ha (k := 2) rfl
              refine g11_2 hx hG ha kf_RX10_41 rfl dX10_choose_123 ?_
              refine j_callV hx hG (c_X0_isOut hst r1 ((s17 a 2))) lk_RX10_73 q2.1 (by decide) rfl rfl rfl rfl [.int (zI ((s17 a 2)))] ⟨rfl, hG, hS_s17, q2.1, (by omega)⟩ rfl rfl ⟨by decide, by decide⟩ ⟨by decide, by decide⟩ (k2 := 0) (n2 := 0) rfl rfl (Nat.le_of_ble_eq_true rfl) dX10_choose_126 (kIP (fun v32 q33 => ?_))
              refine j_if_ne hx 170 dX10_choose_129 rfl (by omega) (fun h34 => ?_) (fun h34 => ?_)
              · skip
                exact j_vret hx hq rfl (by decide) (by decide) dX10_choose_170 ⟨rfl, rfl, hS_s17, (zFr_t (zFr_t (zFr_t (zFr_t zFr_rf hF_s11 (by decide)) hF_s12 (by decide)) hF_s14 (by decide)) hF_s17 (by decide)), trivial⟩
              · skip
                refine j_aload hx 5 dX10_choose_132 rfl ?_
                refine j_aload hx 4 dX10_choose_134 rfl ?_
                refine j_callV hx hG (c_X0_become hst r5 r1) lk_RX10_26 q6.1 (by decide) rfl rfl rfl rfl [.ref r1] ⟨rfl, hG, hS_s17, q6.1, q2.1⟩ rfl rfl ⟨by decide, by decide⟩ ⟨by decide, by decide⟩ (k2 := 0) (n2 := 0) rfl rfl (Nat.le_of_ble_eq_true rfl) dX10_choose_136 (kVM (fun s18 hS_s18 hF_s18 q36 => ?_))
                refine j_aload hx 5 dX10_choose_139 rfl ?_
                refine j_aload_n hx 0 dX10_choose_141 rfl ?_
                refine g11_2 hx hG ha kf_RX10_41 (v := (s17 a 2)) (by rw [(zFr_g hF_s18 ha (by decide))]) dX10_choose_142 ?_
                refine j_iload hx 6 dX10_choose_145 rfl ?_
                refine j_aload_n hx 0 dX10_choose_147 rfl ?_
                have f37 := zf hS_s17 ha (k := 3) rfl
                refine g11_3 hx hG ha kf_RX10_45 (v := (s17 a 3)) (by rw [(zFr_g hF_s18 ha (by decide))]) dX10_choose_148 ?_
                refine j_callV hx hG (c_X0_win hst r5 ((s17 a 2)) v20 ((s17 a 3))) lk_RX10_69 q6.1 (by decide) rfl rfl rfl rfl [.int (zI ((s17 a 2))), .int (zI v20), .int (zI ((s17 a 3)))] ⟨rfl, hG, hS_s18, q6.1, (by omega), (by omega), (by omega)⟩ rfl rfl ⟨by decide, by decide⟩ ⟨by decide, by decide⟩ (k2 := 0) (n2 := 0) rfl rfl (Nat.le_of_ble_eq_true rfl) dX10_choose_151 (kIM (fun v38 s19 hS_s19 hF_s19 q39 => ?_))
                refine j_pop hx dX10_choose_154 rfl ?_
                refine j_aload_n hx 0 dX10_choose_155 rfl ?_
                refine j_iload_n hx 1 dX10_choose_156 rfl ?_
                refine j_iconst hx dX10_choose_157 ?_
                refine j_iadd hx (r := 3) dX10_choose_158 (by omega) ?_
                refine j_iload_n hx 2 dX10_choose_159 rfl ?_
                refine j_iconst hx dX10_choose_160 ?_
                refine j_iload_n hx 1 dX10_choose_161 rfl ?_
                refine j_ishl hx dX10_choose_162 (fun v40 f41 f42 => ?_)
                refine j_ior hx dX10_choose_163 (fun v43 f44 f45 => ?_)
                refine j_iload_n hx 3 dX10_choose_164 rfl ?_
                refine j_iconst hx dX10_choose_165 ?_
                refine j_isub hx (r := x3 - 1) dX10_choose_166 rfl ?_
                refine j_callV hx hG (c_X10_choose_3 hst a 3 v43 (x3 - 1)) lk_RX10_54 ha (by decide) rfl rfl rfl rfl [.int (zI 3), .int (zI v43), .int (zI (x3 - 1))] ⟨rfl, hG, hS_s19, ha, (by omega), (by omega), (by omega)⟩ rfl rfl ⟨by decide, by decide⟩ ⟨by decide, by decide⟩ (k2 := 0) (n2 := 0) rfl rfl (Nat.le_of_ble_eq_true rfl) dX10_choose_167 (kVM (fun s20 hS_s20 hF_s20 q47 => ?_))
                exact j_vret hx hq rfl (by decide) (by decide) dX10_choose_170 ⟨rfl, rfl, hS_s20, (zFr_t (zFr_t (zFr_t (zFr_t (zFr_t (zFr_t (zFr_t zFr_rf hF_s11 (by decide)) hF_s12 (by decide)) hF_s14 (by decide)) hF_s17 (by decide)) hF_s18 (by decide)) hF_s19 (by decide)) hF_s20 (by decide)), trivial⟩
        refine j_icmp_eq hx 101 dX10_choose_78 rfl (by omega) ⟨by decide, by decide⟩ (fun h48 => ?_) (fun h48 => ?_)
        · skip
          exact j_sub [4, 5, 6, 7, 3, 2, 1] [(0, .ref a), (1, .int (zI 2)), (2, .int (zI x2)), (3, .int (zI x3)), (4, .ref r1), (5, .ref r5), (6, .int (zI v20))] rfl (c101_13 s12 hS_s12 zFr_rf)
        · skip
          refine j_iload hx 0 dX10_choose_81 rfl ?_
          refine j_iconst hx dX10_choose_83 ?_
          refine j_icmp_eq hx 101 dX10_choose_84 rfl (by omega) ⟨by decide, by decide⟩ (fun h49 => ?_) (fun h49 => ?_)
          · skip
            exact j_sub [4, 5, 6, 7, 3, 2, 1] [(0, .ref a), (1, .int (zI 2)), (2, .int (zI x2)), (3, .int (zI x3)), (4, .ref r1), (5, .ref r5), (6, .int (zI v20))] rfl (c101_13 s12 hS_s12 zFr_rf)
          · skip
            refine j_aload hx 2 dX10_choose_87 rfl ?_
            refine j_iload hx 0 dX10_choose_89 rfl ?_
            refine j_iload hx 1 dX10_choose_91 rfl ?_
            refine j_aload_n hx 4 dX10_choose_93 rfl ?_
            have f50 := zf hS0 ha (k := 3) rfl
            refine g11_3 hx hG ha kf_RX10_45 (v := (s0 a 3)) (by rw [(zFr_g hF_s12 ha (by decide)), (zFr_g hF_s11 ha (by decide))]) dX10_choose_94 ?_
            refine j_callV hx hG (c_X0_win hst r5 v23 v20 ((s0 a 3))) lk_RX10_69 q6.1 (by decide) rfl rfl rfl rfl [.int (zI v23), .int (zI v20), .int (zI ((s0 a 3)))] ⟨rfl, hG, hS_s12, q6.1, (by omega), (by omega), (by omega)⟩ rfl rfl ⟨by decide, by decide⟩ ⟨by decide, by decide⟩ (k2 := 0) (n2 := 0) rfl rfl (Nat.le_of_ble_eq_true rfl) dX10_choose_97 (kIM (fun v51 s21 hS_s21 hF_s21 q52 => ?_))
            refine j_pop hx dX10_choose_100 rfl ?_
            exact j_sub [4, 5, 6, 7, 3, 2, 1] [(0, .ref a), (1, .int (zI 2)), (2, .int (zI x2)), (3, .int (zI x3)), (4, .ref r1), (5, .ref r5), (6, .int (zI v20))] rfl (c101_13 s21 hS_s21 (zFr_t zFr_rf hF_s21 (by decide)))
      · skip
        exact j_sub [2, 4, 1] [(0, .ref a), (2, .int (zI x2)), (4, .ref r1)] rfl (c35_6 s11 hS_s11 (zFr_t zFr_rf hF_s11 (by decide)))
