theorem lk_RX12_240 : LkV RX12 240 RX12 yX12_may cX12_may 4 (some .boolean) 3 := ⟨km_RX12_240, ki_yX12_may, ks_RX12_yX12_may, kn_RX12, kc_yX12_may, rfl, by decide +kernel, by decide +kernel, by decide +kernel⟩
theorem lk_RX12_244 : LkV RX12 244 RX12 yX12_begins cX12_begins 2 none 1 := ⟨km_RX12_244, ki_yX12_begins, ks_RX12_yX12_begins, kn_RX12, kc_yX12_begins, rfl, by decide +kernel, by decide +kernel, by decide +kernel⟩
theorem lk_RX12_128 : LkV RX12 128 RX12 yX12_clears cX12_clears 2 none 0 := ⟨km_RX12_128, ki_yX12_clears, ks_RX12_yX12_clears, kn_RX12, kc_yX12_clears, rfl, by decide +kernel, by decide +kernel, by decide +kernel⟩
theorem lk_RX12_265 : LkV RX12 265 RX12 yX12_result cX12_result 2 (some .int) 1 := ⟨km_RX12_265, ki_yX12_result, ks_RX12_yX12_result, kn_RX12, kc_yX12_result, rfl, by decide +kernel, by decide +kernel, by decide +kernel⟩
theorem lk_RX12_131 : LkV RX12 131 RX12 yX12_sets cX12_sets 4 none 0 := ⟨km_RX12_131, ki_yX12_sets, ks_RX12_yX12_sets, kn_RX12, kc_yX12_sets, rfl, by decide +kernel, by decide +kernel, by decide +kernel⟩
theorem lk_RX12_247 : LkV RX12 247 RX12 yX12_isMore cX12_isMore 1 (some .boolean) 0 := ⟨km_RX12_247, ki_yX12_isMore, ks_RX12_yX12_isMore, kn_RX12, kc_yX12_isMore, rfl, by decide +kernel, by decide +kernel, by decide +kernel⟩
theorem lk_RX12_250 : LkV RX12 250 RX12 yX12_word cX12_word 4 (some .int) 0 := ⟨km_RX12_250, ki_yX12_word, ks_RX12_yX12_word, kn_RX12, kc_yX12_word, rfl, by decide +kernel, by decide +kernel, by decide +kernel⟩
theorem lk_RX12_253 : LkS RX12 253 yX12_isClause cX12_isClause 1 (some .boolean) 1 := ⟨km_RX12_253, kst_yX12_isClause, kn_RX12, kc_yX12_isClause, by decide +kernel, by decide +kernel, by decide +kernel⟩
theorem lk_RX12_256 : LkV RX12 256 RX12 yX12_pass cX12_pass 1 none 0 := ⟨km_RX12_256, ki_yX12_pass, ks_RX12_yX12_pass, kn_RX12, kc_yX12_pass, rfl, by decide +kernel, by decide +kernel, by decide +kernel⟩
theorem lk_RX12_259 : LkV RX12 259 RX12 yX12_readClause cX12_readClause 4 none 1 := ⟨km_RX12_259, ki_yX12_readClause, ks_RX12_yX12_readClause, kn_RX12, kc_yX12_readClause, rfl, by decide +kernel, by decide +kernel, by decide +kernel⟩
theorem lk_RX12_262 : LkV RX12 262 RX12 yX12_sign cX12_sign 2 none 1 := ⟨km_RX12_262, ki_yX12_sign, ks_RX12_yX12_sign, kn_RX12, kc_yX12_sign, rfl, by decide +kernel, by decide +kernel, by decide +kernel⟩
set_option maxHeartbeats 1200000 in
set_option maxRecDepth 20000 in
theorem c_X12_table {E : zE} {l : Launch} (hst : l.stackTraces = false) (a : Nat) (x1 : Int) : Con E l yX12_table cX12_table 4 (some .int) { frames := 7, cells := 0, slots := 0, locals := 265 } (fun G s vs => vs = [.ref a, .int (zI x1)] ∧ zGK G ∧ zSK G s ∧ (gT G a = 13) ∧ ((-2147483648) ≤ x1 ∧ x1 ≤ 2147483647) ∧ (zc (s (gP G a 27)) ≤ 60) ∧ (zc (s (gP G a 28)) ≤ 60) ∧ (zRva (s (gP G a 34)) (s (gP G a 35)) (s (gP G a 37))) ∧ (zQn (s (gP G a 17)) (s a 24))) (fun G s _ => pI (fun r G2 s2 => G2 = G ∧ zSK G s2 ∧ zFr [13, 71, 73, 74, 75, 76, 77, 78, 79, 80, 81, 82, 83, 84, 85, 87, 91, 94] G s s2 ∧ ((-2147483648) ≤ r ∧ r ≤ 2147483647) ∧ zc (s2 (gP G a 27)) ≤ 60 ∧ zc (s2 (gP G a 28)) ≤ 60 ∧ (s2 (gP G a 27) 488 = s (gP G a 27) 488 ∨ s2 (gP G a 27) 488 = 0) ∧ (s2 (gP G a 28) 488 = s (gP G a 28) 488 ∨ s2 (gP G a 28) 488 = 0) ∧ zRva (s2 (gP G a 34)) (s2 (gP G a 35)) (s2 (gP G a 37)) ∧ zQn (s2 (gP G a 17)) (s2 a 24) ∧ s2 a 38 = s a 38 ∧ s2 a 51 = s a 51 ∧ s2 a 52 = s a 52)) := by
  refine Con.mk hst (by decide) (fun G s vs h => by rw [h.1]; exact Nat.le_of_ble_eq_true rfl) ?_
  rintro X G s0 vs ⟨rfl, hG, hS0, ha, hx1, e0, e1, e2, e3⟩ rfl hx hq
  show JJ X E 4 G s0 0 0 [(0, .ref a), (1, .int (zI x1))] 0 []
  refine j_aload_n hx 0 dX12_table_0 rfl ?_
  refine j_iconst hx dX12_table_1 ?_
  refine p13_0 hx hG ha kf_RX12_3 dX12_table_2 ?_
  obtain ⟨s1, e_s1⟩ : ∃ z, z = zU s0 a 0 0 := ⟨_, rfl⟩
  rw [← e_s1]
  have hS_s1 : zSK G s1 := by rw [e_s1]; exact zSK_F hS0 ha rfl rfl rfl (by omega)
  refine j_aload_n hx 0 dX12_table_5 rfl ?_
  refine j_iload_n hx 1 dX12_table_6 rfl ?_
  have c23_2 : ∀ (v1 : Int), (0 ≤ v1 ∧ v1 ≤ 1) → JJ X E 4 G s1 0 0 [(0, .ref a), (1, .int (zI x1))] 23 [.int (zI v1), .ref a] := by
    intro v1 fA3
    refine j_iconst hx dX12_table_23 ?_
    refine j_iconst hx dX12_table_24 ?_
    rcases (show v1 = 0 ∨ v1 = 1 by omega) with rfl | rfl
    · skip
      have g3 : s1 a 0 = 0 := (by rw [e_s1, zU_eq])
      have g4 : s1 a 3 = s0 a 3 := (by rw [e_s1, zU_at (Or.inr (by decide))])
      have f5 := zf hS0 ha (k := 3) rfl
      have g6 : s1 a 4 = s0 a 4 := (by rw [e_s1, zU_at (Or.inr (by decide))])
      have f7 := zf hS0 ha (k := 4) rfl
      have g8 : s1 a 5 = s0 a 5 := (by rw [e_s1, zU_at (Or.inr (by decide))])
      have f9 := zf hS0 ha (k := 5) rfl
      have g10 : s1 a 7 = s0 a 7 := (by rw [e_s1, zU_at (Or.inr (by decide))])
      have f11 := zf hS0 ha (k := 7) rfl
      have g12 : s1 a 21 = s0 a 21 := (by rw [e_s1, zU_at (Or.inr (by decide))])
      have f13 := zf hS0 ha (k := 21) rfl
      have g14 : s1 a 22 = s0 a 22 := (by rw [e_s1, zU_at (Or.inr (by decide))])
      have f15 := zf hS0 ha (k := 22) rfl
      have g16 : s1 a 23 = s0 a 23 := (by rw [e_s1, zU_at (Or.inr (by decide))])
      have f17 := zf hS0 ha (k := 23) rfl
      have g18 : s1 a 24 = s0 a 24 := (by rw [e_s1, zU_at (Or.inr (by decide))])
      have f19 := zf hS0 ha (k := 24) rfl
      have g20 : s1 a 38 = s0 a 38 := (by rw [e_s1, zU_at (Or.inr (by decide))])
      have f21 := zf hS0 ha (k := 38) rfl
      have g22 : s1 a 51 = s0 a 51 := (by rw [e_s1, zU_at (Or.inr (by decide))])
      have f23 := zf hS0 ha (k := 51) rfl
      have g24 : s1 a 52 = s0 a 52 := (by rw [e_s1, zU_at (Or.inr (by decide))])
      have f25 := zf hS0 ha (k := 52) rfl
      refine j_callV hx hG (c_X12_may_f hst a 0 1 1) lk_RX12_240 ha (by decide) rfl rfl rfl rfl [.int (zI 0), .int (zI 1), .int (zI 1)] ⟨rfl, hG, hS_s1, ha, (by omega), (by omega), (by omega), (((by rw [e_s1, zU_eq]) : s1 a 0 = 0).trans (by omega))⟩ rfl rfl ⟨by decide, by decide⟩ ⟨by decide, by decide⟩ (k2 := 0) (n2 := 0) rfl rfl (Nat.le_of_ble_eq_true rfl) dX12_table_25 (kIM (fun v26 s4 hS_s4 hF_s4 q27 => ?_))
      refine j_if_ne hx 33 dX12_table_28 rfl (by omega) (fun h28 => absurd h28 (by omega)) (fun h28 => ?_)
      refine j_iconst hx dX12_table_31 ?_
      have g29 : zc (s4 (gP G a 27)) = zc (s0 (gP G a 27)) := by rw [hF_s4 (gP G a 27) (by rw [(zr (k := 27) (t2 := 84) hG ha rfl)]; decide), e_s1, zU_ne (zne ha (zr (k := 27) (t2 := 84) hG ha rfl) (by decide))]
      have g30 : zc (s4 (gP G a 28)) = zc (s0 (gP G a 28)) := by rw [hF_s4 (gP G a 28) (by rw [(zr (k := 28) (t2 := 85) hG ha rfl)]; decide), e_s1, zU_ne (zne ha (zr (k := 28) (t2 := 85) hG ha rfl) (by decide))]
      have g31 : s4 (gP G a 27) 488 = s0 (gP G a 27) 488 := (by rw [(zFr_g hF_s4 (zr (k := 27) (t2 := 84) hG ha rfl) (by decide)), e_s1, zU_at (Or.inl (zne ha (zr (k := 27) (t2 := 84) hG ha rfl) (by decide)))])
      have g32 : s4 (gP G a 28) 488 = s0 (gP G a 28) 488 := (by rw [(zFr_g hF_s4 (zr (k := 28) (t2 := 85) hG ha rfl) (by decide)), e_s1, zU_at (Or.inl (zne ha (zr (k := 28) (t2 := 85) hG ha rfl) (by decide)))])
      have f33 := zf hS_s4 ha (k := 24) rfl
      have f34 := zf hS_s4 ha (k := 38) rfl
      have f35 := zf hS_s4 ha (k := 51) rfl
      have f36 := zf hS_s4 ha (k := 52) rfl
      exact j_iret hx hq rfl (by decide) (by decide) dX12_table_32 ⟨0, rfl, rfl, hS_s4, (zFr_t (zFr_u zFr_rf e_s1 ha (by decide)) hF_s4 (by decide)), ⟨(by omega), by omega, by omega, by omega, by omega, (by have q1 : s4 (gP G a 34) = s0 (gP G a 34) := (by rw [hF_s4 (gP G a 34) (by rw [(zr (k := 34) (t2 := 91) hG ha rfl)]; decide), e_s1, zU_ne (zne ha (zr (k := 34) (t2 := 91) hG ha rfl) (by decide))]); have q2 : s4 (gP G a 35) = s0 (gP G a 35) := (by rw [hF_s4 (gP G a 35) (by rw [(zr (k := 35) (t2 := 92) hG ha rfl)]; decide), e_s1, zU_ne (zne ha (zr (k := 35) (t2 := 92) hG ha rfl) (by decide))]); have q3 : s4 (gP G a 37) = s0 (gP G a 37) := (by rw [hF_s4 (gP G a 37) (by rw [(zr (k := 37) (t2 := 94) hG ha rfl)]; decide), e_s1, zU_ne (zne ha (zr (k := 37) (t2 := 94) hG ha rfl) (by decide))]); rw [q1, q2, q3]; exact e2), (by have q1 : s4 (gP G a 17) = s0 (gP G a 17) := (by rw [hF_s4 (gP G a 17) (by rw [(zr (k := 17) (t2 := 80) hG ha rfl)]; decide), e_s1, zU_ne (zne ha (zr (k := 17) (t2 := 80) hG ha rfl) (by decide))]); rw [q1]; exact (zQn_nn e3 (by omega))), by omega, by omega, by omega⟩⟩
    · skip
      have g37 : s1 a 0 = 0 := (by rw [e_s1, zU_eq])
      refine j_callV hx hG (c_X12_may_t hst a 1 1 1) lk_RX12_240 ha (by decide) rfl rfl rfl rfl [.int (zI 1), .int (zI 1), .int (zI 1)] ⟨rfl, hG, hS_s1, ha, (by omega), (by omega), (by omega), (((by rw [e_s1, zU_eq]) : s1 a 0 = 0).trans (by omega))⟩ rfl rfl ⟨by decide, by decide⟩ ⟨by decide, by decide⟩ (k2 := 0) (n2 := 0) rfl rfl (Nat.le_of_ble_eq_true rfl) dX12_table_25 (kIP (fun v38 q39 => ?_))
      refine j_if_ne hx 33 dX12_table_28 rfl (by omega) (fun h40 => ?_) (fun h40 => absurd h40 (by omega))
      refine j_aload_n hx 0 dX12_table_33 rfl ?_
      refine j_iload_n hx 1 dX12_table_34 rfl ?_
      have g41 : s1 a 21 = s0 a 21 := (by rw [e_s1, zU_at (Or.inr (by decide))])
      have f42 := zf hS0 ha (k := 21) rfl
      have g43 : s1 a 22 = s0 a 22 := (by rw [e_s1, zU_at (Or.inr (by decide))])
      have f44 := zf hS0 ha (k := 22) rfl
      have g45 : s1 a 23 = s0 a 23 := (by rw [e_s1, zU_at (Or.inr (by decide))])
      have f46 := zf hS0 ha (k := 23) rfl
      have g47 : s1 a 24 = s0 a 24 := (by rw [e_s1, zU_at (Or.inr (by decide))])
      have f48 := zf hS0 ha (k := 24) rfl
      have g49 : s1 a 38 = s0 a 38 := (by rw [e_s1, zU_at (Or.inr (by decide))])
      have f50 := zf hS0 ha (k := 38) rfl
      have g51 : s1 a 51 = s0 a 51 := (by rw [e_s1, zU_at (Or.inr (by decide))])
      have f52 := zf hS0 ha (k := 51) rfl
      have g53 : s1 a 52 = s0 a 52 := (by rw [e_s1, zU_at (Or.inr (by decide))])
      have f54 := zf hS0 ha (k := 52) rfl
      refine j_callV hx hG (c_X12_begins hst a x1) lk_RX12_244 ha (by decide) rfl rfl rfl rfl [.int (zI x1)] ⟨rfl, hG, hS_s1, ha, (by omega)⟩ rfl rfl ⟨by decide, by decide⟩ ⟨by decide, by decide⟩ (k2 := 0) (n2 := 0) rfl rfl (Nat.le_of_ble_eq_true rfl) dX12_table_35 (kVM (fun s5 hS_s5 hF_s5 q56 => ?_))
      refine j_aload_n hx 0 dX12_table_38 rfl ?_
      have f57 := zf hS_s5 ha (k := 0) rfl
      have f58 := zf hS_s5 ha (k := 3) rfl
      have f59 := zf hS_s5 ha (k := 24) rfl
      have f60 := zf hS_s5 ha (k := 38) rfl
      have f61 := zf hS_s5 ha (k := 51) rfl
      have f62 := zf hS_s5 ha (k := 52) rfl
      refine j_callV hx hG (c_X12_clears hst a) lk_RX12_128 ha (by decide) rfl rfl rfl rfl [] ⟨rfl, hG, hS_s5, ha⟩ rfl rfl ⟨by decide, by decide⟩ ⟨by decide, by decide⟩ (k2 := 0) (n2 := 0) rfl rfl (Nat.le_of_ble_eq_true rfl) dX12_table_39 (kVM (fun s6 hS_s6 hF_s6 q64 => ?_))
      have hP65 : zQi (s6 a 5) (s6 (gP G a 10)) (s6 a 21) := (fun _ => zQn_0 (by omega))
      refine j_iconst hx dX12_table_42 ?_
      refine j_istore_n hx [(2, .int (zI 0)), (0, .ref a), (1, .int (zI x1))] dX12_table_43 (by decide) rfl ?_
      have f67 := zf hS_s6 ha (k := 0) rfl
      have f68 := zf hS_s6 ha (k := 3) rfl
      have f69 := zf hS_s6 ha (k := 7) rfl
      have f70 := zf hS_s6 ha (k := 24) rfl
      have f71 := zf hS_s6 ha (k := 38) rfl
      have f72 := zf hS_s6 ha (k := 51) rfl
      have f73 := zf hS_s6 ha (k := 52) rfl
      have f74 := zf hS_s6 ha (k := 4) rfl
      have c44_7 : ∀ (m_c44_7 : Nat) (v66 : Int) (s8 : zS), 3000 - 2 * s8 a 4 - s8 a 5 < m_c44_7 → ((-2147483648) ≤ v66 ∧ v66 ≤ 2147483647) → (zSK G s8) → (zFr [13, 73, 74, 75, 76, 77, 78, 79] G s6 s8) → (s8 a 0 = s6 a 0) → (s8 a 3 = s6 a 3) → (s8 a 7 = s6 a 7) → (s8 a 24 = s6 a 24) → (s8 a 38 = s6 a 38) → (s8 a 51 = s6 a 51) → (s8 a 52 = s6 a 52) → (zQi (s8 a 5) (s8 (gP G a 10)) (s8 a 21)) → (s8 (gP G a 13) 0 + s8 (gP G a 13) 1 + s8 (gP G a 13) 2 = s8 a 22) → (s6 a 4 ≤ s8 a 4) → (s8 a 4 ≤ s8 a 3 + 2) → (s8 a 4 ≤ 700) → (s8 a 5 ≤ 700) → JJ X E 4 G s8 0 0 [(0, .ref a), (2, .int (zI v66))] 44 [] := by
        intro m_c44_7
        induction m_c44_7 with
        | zero => intro v66 s8 hm_c44_7 fA9 hS_s8 hF_s8 fA12 fA13 fA14 fA15 fA16 fA17 fA18 fA19 fA20 fA21 fA22 fA23 fA24; exfalso; omega
        | succ m_c44_7 ih_c44_7 => 
          intro v66 s8 hm_c44_7 fA9 hS_s8 hF_s8 fA12 fA13 fA14 fA15 fA16 fA17 fA18 fA19 fA20 fA21 fA22 fA23 fA24
          refine j_aload_n hx 0 dX12_table_44 rfl ?_
          refine j_callV hx hG (c_X12_fine hst a) lk_RX12_166 ha (by decide) rfl rfl rfl rfl [] ⟨rfl, hG, hS_s8, ha⟩ rfl rfl ⟨by decide, by decide⟩ ⟨by decide, by decide⟩ (k2 := 0) (n2 := 0) rfl rfl (Nat.le_of_ble_eq_true rfl) dX12_table_45 (kIP (fun v75 q76 => ?_))
          have f77 := zf hS_s8 ha (k := 0) rfl
          have f78 := zf hS_s8 ha (k := 3) rfl
          have f79 := zf hS_s8 ha (k := 7) rfl
          have f80 := zf hS_s8 ha (k := 21) rfl
          have f81 := zf hS_s8 ha (k := 22) rfl
          have f82 := zf hS_s8 ha (k := 23) rfl
          have f83 := zf hS_s8 ha (k := 24) rfl
          have f84 := zf hS_s8 ha (k := 38) rfl
          have f85 := zf hS_s8 ha (k := 51) rfl
          have f86 := zf hS_s8 ha (k := 52) rfl
          have c163_25 : ∀ (s26 : zS), (zSK G s26) → (zFr [13] G s8 s26) → (s26 a 0 = s8 a 0) → (s26 a 3 = s8 a 3) → (s26 a 7 = s8 a 7) → (s26 a 21 = s8 a 21) → (s26 a 22 = s8 a 22) → (s26 a 23 = s8 a 23) → (s26 a 24 = s8 a 24) → (s26 a 38 = s8 a 38) → (s26 a 51 = s8 a 51) → (s26 a 52 = s8 a 52) → JJ X E 4 G s26 0 0 [(0, .ref a)] 163 [] := by
            intro s26 hS_s26 hF_s26 fA29 fA30 fA31 fA32 fA33 fA34 fA35 fA36 fA37 fA38
            refine j_aload_n hx 0 dX12_table_163 rfl ?_
            refine j_callV hx hG (c_X12_fine hst a) lk_RX12_166 ha (by decide) rfl rfl rfl rfl [] ⟨rfl, hG, hS_s26, ha⟩ rfl rfl ⟨by decide, by decide⟩ ⟨by decide, by decide⟩ (k2 := 0) (n2 := 0) rfl rfl (Nat.le_of_ble_eq_true rfl) dX12_table_164 (kIP (fun v87 q88 => ?_))
            have f89 := zf hS_s26 ha (k := 0) rfl
            have f90 := zf hS_s26 ha (k := 3) rfl
            have f91 := zf hS_s26 ha (k := 4) rfl
            have f92 := zf hS_s26 ha (k := 7) rfl
            have f93 := zf hS_s26 ha (k := 21) rfl
            have f94 := zf hS_s26 ha (k := 22) rfl
            have f95 := zf hS_s26 ha (k := 23) rfl
            have f96 := zf hS_s26 ha (k := 24) rfl
            have f97 := zf hS_s26 ha (k := 38) rfl
            have f98 := zf hS_s26 ha (k := 51) rfl
            have f99 := zf hS_s26 ha (k := 52) rfl
            have c187_39 : ∀ (s40 : zS), (zSK G s40) → (zFr [13] G s26 s40) → (s40 a 0 = s26 a 0) → (s40 a 3 = s26 a 3) → (s40 a 4 = s26 a 4) → (s40 a 7 = s26 a 7) → (s40 a 21 = s26 a 21) → (s40 a 22 = s26 a 22) → (s40 a 23 = s26 a 23) → (s40 a 24 = s26 a 24) → (s40 a 38 = s26 a 38) → (s40 a 51 = s26 a 51) → (s40 a 52 = s26 a 52) → JJ X E 4 G s40 0 0 [(0, .ref a)] 187 [] := by
              intro s40 hS_s40 hF_s40 fA43 fA44 fA45 fA46 fA47 fA48 fA49 fA50 fA51 fA52 fA53
              refine j_aload_n hx 0 dX12_table_187 rfl ?_
              refine j_aload_n hx 0 dX12_table_188 rfl ?_
              have f100 := zf hS_s40 ha (k := 21) rfl
              refine g13_21 hx hG ha kf_RX12_180 rfl dX12_table_189 ?_
              have f101 := zf hS_s40 ha (k := 0) rfl
              have f102 := zf hS_s40 ha (k := 3) rfl
              have f103 := zf hS_s40 ha (k := 4) rfl
              have f104 := zf hS_s40 ha (k := 5) rfl
              have f105 := zf hS_s40 ha (k := 7) rfl
              have f106 := zf hS_s40 ha (k := 22) rfl
              have f107 := zf hS_s40 ha (k := 23) rfl
              have f108 := zf hS_s40 ha (k := 24) rfl
              have f109 := zf hS_s40 ha (k := 38) rfl
              have f110 := zf hS_s40 ha (k := 51) rfl
              have f111 := zf hS_s40 ha (k := 52) rfl
              refine j_callV hx hG (c_X12_result hst a ((s40 a 21))) lk_RX12_265 ha (by decide) rfl rfl rfl rfl [.int (zI ((s40 a 21)))] ⟨rfl, hG, hS_s40, ha, (by omega)⟩ rfl rfl ⟨by decide, by decide⟩ ⟨by decide, by decide⟩ (k2 := 0) (n2 := 0) rfl rfl (Nat.le_of_ble_eq_true rfl) dX12_table_192 (kIM (fun v112 s54 hS_s54 hF_s54 q113 => ?_))
              refine j_istore_n hx [(3, .int (zI v112)), (0, .ref a)] dX12_table_195 (by decide) rfl ?_
              refine j_aload_n hx 1 dX12_table_196 rfl ?_
              have f114 := zf hS_s54 ha (k := 5) rfl
              refine g13_5 hx hG ha kf_RX12_137 rfl dX12_table_197 ?_
              refine j_iconst hx dX12_table_200 ?_
              refine j_icmp_ne hx 208 dX12_table_201 rfl (by omega) ⟨by decide, by decide⟩ (fun h115 => ?_) (fun h115 => ?_)
              · skip
                refine j_iload_n hx 0 dX12_table_208 rfl ?_
                have g116 : zc (s54 (gP G a 27)) = zc (s0 (gP G a 27)) := by rw [hF_s54 (gP G a 27) (by rw [(zr (k := 27) (t2 := 84) hG ha rfl)]; decide), hF_s40 (gP G a 27) (by rw [(zr (k := 27) (t2 := 84) hG ha rfl)]; decide), hF_s26 (gP G a 27) (by rw [(zr (k := 27) (t2 := 84) hG ha rfl)]; decide), hF_s8 (gP G a 27) (by rw [(zr (k := 27) (t2 := 84) hG ha rfl)]; decide), hF_s6 (gP G a 27) (by rw [(zr (k := 27) (t2 := 84) hG ha rfl)]; decide), hF_s5 (gP G a 27) (by rw [(zr (k := 27) (t2 := 84) hG ha rfl)]; decide), e_s1, zU_ne (zne ha (zr (k := 27) (t2 := 84) hG ha rfl) (by decide))]
                have g117 : zc (s54 (gP G a 28)) = zc (s0 (gP G a 28)) := by rw [hF_s54 (gP G a 28) (by rw [(zr (k := 28) (t2 := 85) hG ha rfl)]; decide), hF_s40 (gP G a 28) (by rw [(zr (k := 28) (t2 := 85) hG ha rfl)]; decide), hF_s26 (gP G a 28) (by rw [(zr (k := 28) (t2 := 85) hG ha rfl)]; decide), hF_s8 (gP G a 28) (by rw [(zr (k := 28) (t2 := 85) hG ha rfl)]; decide), hF_s6 (gP G a 28) (by rw [(zr (k := 28) (t2 := 85) hG ha rfl)]; decide), hF_s5 (gP G a 28) (by rw [(zr (k := 28) (t2 := 85) hG ha rfl)]; decide), e_s1, zU_ne (zne ha (zr (k := 28) (t2 := 85) hG ha rfl) (by decide))]
                have g118 : s54 (gP G a 27) 488 = s0 (gP G a 27) 488 := (by rw [(zFr_g hF_s54 (zr (k := 27) (t2 := 84) hG ha rfl) (by decide)), (zFr_g hF_s40 (zr (k := 27) (t2 := 84) hG ha rfl) (by decide)), (zFr_g hF_s26 (zr (k := 27) (t2 := 84) hG ha rfl) (by decide)), (zFr_g hF_s8 (zr (k := 27) (t2 := 84) hG ha rfl) (by decide)), (zFr_g hF_s6 (zr (k := 27) (t2 := 84) hG ha rfl) (by decide)), (zFr_g hF_s5 (zr (k := 27) (t2 := 84) hG ha rfl) (by decide)), e_s1, zU_at (Or.inl (zne ha (zr (k := 27) (t2 := 84) hG ha rfl) (by decide)))])
                have g119 : s54 (gP G a 28) 488 = s0 (gP G a 28) 488 := (by rw [(zFr_g hF_s54 (zr (k := 28) (t2 := 85) hG ha rfl) (by decide)), (zFr_g hF_s40 (zr (k := 28) (t2 := 85) hG ha rfl) (by decide)), (zFr_g hF_s26 (zr (k := 28) (t2 := 85) hG ha rfl) (by decide)), (zFr_g hF_s8 (zr (k := 28) (t2 := 85) hG ha rfl) (by decide)), (zFr_g hF_s6 (zr (k := 28) (t2 := 85) hG ha rfl) (by decide)), (zFr_g hF_s5 (zr (k := 28) (t2 := 85) hG ha rfl) (by decide)), e_s1, zU_at (Or.inl (zne ha (zr (k := 28) (t2 := 85) hG ha rfl) (by decide)))])
                have f120 := zf hS_s54 ha (k := 24) rfl
                have f121 := zf hS_s54 ha (k := 38) rfl
                have f122 := zf hS_s54 ha (k := 51) rfl
                have f123 := zf hS_s54 ha (k := 52) rfl
                exact j_iret hx hq rfl (by decide) (by decide) dX12_table_209 ⟨v112, rfl, rfl, hS_s54, (zFr_t (zFr_t (zFr_t (zFr_t (zFr_t (zFr_t (zFr_u zFr_rf e_s1 ha (by decide)) hF_s5 (by decide)) hF_s6 (by decide)) hF_s8 (by decide)) hF_s26 (by decide)) hF_s40 (by decide)) hF_s54 (by decide)), ⟨(by omega), by omega, by omega, by omega, by omega, (by have q1 : s54 (gP G a 34) = s0 (gP G a 34) := (by rw [hF_s54 (gP G a 34) (by rw [(zr (k := 34) (t2 := 91) hG ha rfl)]; decide), hF_s40 (gP G a 34) (by rw [(zr (k := 34) (t2 := 91) hG ha rfl)]; decide), hF_s26 (gP G a 34) (by rw [(zr (k := 34) (t2 := 91) hG ha rfl)]; decide), hF_s8 (gP G a 34) (by rw [(zr (k := 34) (t2 := 91) hG ha rfl)]; decide), hF_s6 (gP G a 34) (by rw [(zr (k := 34) (t2 := 91) hG ha rfl)]; decide), hF_s5 (gP G a 34) (by rw [(zr (k := 34) (t2 := 91) hG ha rfl)]; decide), e_s1, zU_ne (zne ha (zr (k := 34) (t2 := 91) hG ha rfl) (by decide))]); have q2 : s54 (gP G a 35) = s0 (gP G a 35) := (by rw [hF_s54 (gP G a 35) (by rw [(zr (k := 35) (t2 := 92) hG ha rfl)]; decide), hF_s40 (gP G a 35) (by rw [(zr (k := 35) (t2 := 92) hG ha rfl)]; decide), hF_s26 (gP G a 35) (by rw [(zr (k := 35) (t2 := 92) hG ha rfl)]; decide), hF_s8 (gP G a 35) (by rw [(zr (k := 35) (t2 := 92) hG ha rfl)]; decide), hF_s6 (gP G a 35) (by rw [(zr (k := 35) (t2 := 92) hG ha rfl)]; decide), hF_s5 (gP G a 35) (by rw [(zr (k := 35) (t2 := 92) hG ha rfl)]; decide), e_s1, zU_ne (zne ha (zr (k := 35) (t2 := 92) hG ha rfl) (by decide))]); have q3 : s54 (gP G a 37) = s0 (gP G a 37) := (by rw [hF_s54 (gP G a 37) (by rw [(zr (k := 37) (t2 := 94) hG ha rfl)]; decide), hF_s40 (gP G a 37) (by rw [(zr (k := 37) (t2 := 94) hG ha rfl)]; decide), hF_s26 (gP G a 37) (by rw [(zr (k := 37) (t2 := 94) hG ha rfl)]; decide), hF_s8 (gP G a 37) (by rw [(zr (k := 37) (t2 := 94) hG ha rfl)]; decide), hF_s6 (gP G a 37) (by rw [(zr (k := 37) (t2 := 94) hG ha rfl)]; decide), hF_s5 (gP G a 37) (by rw [(zr (k := 37) (t2 := 94) hG ha rfl)]; decide), e_s1, zU_ne (zne ha (zr (k := 37) (t2 := 94) hG ha rfl) (by decide))]); rw [q1, q2, q3]; exact e2), (by have q1 : s54 (gP G a 17) = s0 (gP G a 17) := (by rw [hF_s54 (gP G a 17) (by rw [(zr (k := 17) (t2 := 80) hG ha rfl)]; decide), hF_s40 (gP G a 17) (by rw [(zr (k := 17) (t2 := 80) hG ha rfl)]; decide), hF_s26 (gP G a 17) (by rw [(zr (k := 17) (t2 := 80) hG ha rfl)]; decide), hF_s8 (gP G a 17) (by rw [(zr (k := 17) (t2 := 80) hG ha rfl)]; decide), hF_s6 (gP G a 17) (by rw [(zr (k := 17) (t2 := 80) hG ha rfl)]; decide), hF_s5 (gP G a 17) (by rw [(zr (k := 17) (t2 := 80) hG ha rfl)]; decide), e_s1, zU_ne (zne ha (zr (k := 17) (t2 := 80) hG ha rfl) (by decide))]); rw [q1]; exact (zQn_nn e3 (by omega))), by omega, by omega, by omega⟩⟩
              · skip
                refine j_aload_n hx 1 dX12_table_204 rfl ?_
                have f124 := zf hS_s54 ha (k := 21) rfl
                have hP125 : zQn (s54 (gP G a 10)) (s54 a 21) := ((by have q1 : s54 (gP G a 10) = s8 (gP G a 10) := (by rw [hF_s54 (gP G a 10) (by rw [(zr (k := 10) (t2 := 73) hG ha rfl)]; decide), hF_s40 (gP G a 10) (by rw [(zr (k := 10) (t2 := 73) hG ha rfl)]; decide), hF_s26 (gP G a 10) (by rw [(zr (k := 10) (t2 := 73) hG ha rfl)]; decide)]); rw [q1]; exact (zQi_k fA19 (by omega) (by omega))) (by omega))
                have g126 : s54 (gP G a 13) 0 = s8 (gP G a 13) 0 := (by rw [(zFr_g hF_s54 (zr (k := 13) (t2 := 76) hG ha rfl) (by decide)), (zFr_g hF_s40 (zr (k := 13) (t2 := 76) hG ha rfl) (by decide)), (zFr_g hF_s26 (zr (k := 13) (t2 := 76) hG ha rfl) (by decide))])
                have g127 : s54 (gP G a 13) 1 = s8 (gP G a 13) 1 := (by rw [(zFr_g hF_s54 (zr (k := 13) (t2 := 76) hG ha rfl) (by decide)), (zFr_g hF_s40 (zr (k := 13) (t2 := 76) hG ha rfl) (by decide)), (zFr_g hF_s26 (zr (k := 13) (t2 := 76) hG ha rfl) (by decide))])
                have g128 : s54 (gP G a 13) 2 = s8 (gP G a 13) 2 := (by rw [(zFr_g hF_s54 (zr (k := 13) (t2 := 76) hG ha rfl) (by decide)), (zFr_g hF_s40 (zr (k := 13) (t2 := 76) hG ha rfl) (by decide)), (zFr_g hF_s26 (zr (k := 13) (t2 := 76) hG ha rfl) (by decide))])
                have f129 := zf hS_s54 ha (k := 0) rfl
                have f130 := zf hS_s54 ha (k := 3) rfl
                have f131 := zf hS_s54 ha (k := 4) rfl
                have f132 := zf hS_s54 ha (k := 7) rfl
                have f133 := zf hS_s54 ha (k := 22) rfl
                have f134 := zf hS_s54 ha (k := 23) rfl
                have f135 := zf hS_s54 ha (k := 38) rfl
                have f136 := zf hS_s54 ha (k := 51) rfl
                have f137 := zf hS_s54 ha (k := 52) rfl
                refine j_callV hx hG (c_X12_sets hst a) lk_RX12_131 ha (by decide) rfl rfl rfl rfl [] ⟨rfl, hG, hS_s54, ha, (by omega), ((zQn_nn hP125 (by omega)))⟩ rfl rfl ⟨by decide, by decide⟩ ⟨by decide, by decide⟩ (k2 := 0) (n2 := 0) rfl rfl (Nat.le_of_ble_eq_true rfl) dX12_table_205 (kVM (fun s55 hS_s55 hF_s55 q139 => ?_))
                refine j_iload_n hx 0 dX12_table_208 rfl ?_
                have f140 := zf hS_s55 ha (k := 24) rfl
                have f141 := zf hS_s55 ha (k := 38) rfl
                have f142 := zf hS_s55 ha (k := 51) rfl
                have f143 := zf hS_s55 ha (k := 52) rfl
                exact j_iret hx hq rfl (by decide) (by decide) dX12_table_209 ⟨v112, rfl, rfl, hS_s55, (zFr_t (zFr_t (zFr_t (zFr_t (zFr_t (zFr_t (zFr_t (zFr_u zFr_rf e_s1 ha (by decide)) hF_s5 (by decide)) hF_s6 (by decide)) hF_s8 (by decide)) hF_s26 (by decide)) hF_s40 (by decide)) hF_s54 (by decide)) hF_s55 (by decide)), ⟨(by omega), by omega, by omega, by omega, by omega, q139.2.2.2.2.2.1, (zQn_nn q139.2.2.2.2.1 (by omega)), by omega, by omega, by omega⟩⟩
            refine j_if_eq hx 187 dX12_table_167 rfl (by omega) (fun h144 => ?_) (fun h144 => ?_)
            · skip
              exact j_sub [0] [(0, .ref a)] rfl (c187_39 s26 hS_s26 zFr_rf (by omega) (by omega) (by omega) (by omega) (by omega) (by omega) (by omega) (by omega) (by omega) (by omega) (by omega))
            · skip
              refine j_aload_n hx 0 dX12_table_170 rfl ?_
              refine g13_21 hx hG ha kf_RX12_180 rfl dX12_table_171 ?_
              refine j_iconst hx dX12_table_174 ?_
              refine j_icmp_ge hx 187 dX12_table_175 rfl (by omega) ⟨by decide, by decide⟩ (fun h145 => ?_) (fun h145 => ?_)
              · skip
                exact j_sub [0] [(0, .ref a)] rfl (c187_39 s26 hS_s26 zFr_rf (by omega) (by omega) (by omega) (by omega) (by omega) (by omega) (by omega) (by omega) (by omega) (by omega) (by omega))
              · skip
                refine j_aload_n hx 0 dX12_table_178 rfl ?_
                refine j_iconst hx dX12_table_179 ?_
                refine j_aload_n hx 0 dX12_table_180 rfl ?_
                refine g13_3 hx hG ha kf_RX12_146 rfl dX12_table_181 ?_
                have f146 := zf hS_s26 ha (k := 5) rfl
                refine j_callV hx hG (c_X12_wrong hst a 4 ((s26 a 3))) lk_RX12_173 ha (by decide) rfl rfl rfl rfl [.int (zI 4), .int (zI ((s26 a 3)))] ⟨rfl, hG, hS_s26, ha, (by omega), (by omega)⟩ rfl rfl ⟨by decide, by decide⟩ ⟨by decide, by decide⟩ (k2 := 0) (n2 := 0) rfl rfl (Nat.le_of_ble_eq_true rfl) dX12_table_184 (kVM (fun s56 hS_s56 hF_s56 q148 => ?_))
                have f149 := zf hS_s56 ha (k := 0) rfl
                have f150 := zf hS_s56 ha (k := 3) rfl
                have f151 := zf hS_s56 ha (k := 4) rfl
                have f152 := zf hS_s56 ha (k := 7) rfl
                have f153 := zf hS_s56 ha (k := 21) rfl
                have f154 := zf hS_s56 ha (k := 22) rfl
                have f155 := zf hS_s56 ha (k := 23) rfl
                have f156 := zf hS_s56 ha (k := 24) rfl
                have f157 := zf hS_s56 ha (k := 38) rfl
                have f158 := zf hS_s56 ha (k := 51) rfl
                have f159 := zf hS_s56 ha (k := 52) rfl
                exact j_sub [0] [(0, .ref a)] rfl (c187_39 s56 hS_s56 (zFr_t zFr_rf hF_s56 (by decide)) (by omega) (by omega) (by omega) (by omega) (by omega) (by omega) (by omega) (by omega) (by omega) (by omega) (by omega))
          refine j_if_eq hx 163 dX12_table_48 rfl (by omega) (fun h160 => ?_) (fun h160 => ?_)
          · skip
            exact j_sub [0] [(0, .ref a)] rfl (c163_25 s8 hS_s8 zFr_rf (by omega) (by omega) (by omega) (by omega) (by omega) (by omega) (by omega) (by omega) (by omega) (by omega))
          · skip
            refine j_aload_n hx 0 dX12_table_51 rfl ?_
            have f161 := zf hS_s8 ha (k := 4) rfl
            have f162 := zf hS_s8 ha (k := 5) rfl
            refine j_callV hx hG (c_X12_isMore hst a) lk_RX12_247 ha (by decide) rfl rfl rfl rfl [] ⟨rfl, hG, hS_s8, ha, (by omega)⟩ rfl rfl ⟨by decide, by decide⟩ ⟨by decide, by decide⟩ (k2 := 0) (n2 := 0) rfl rfl (Nat.le_of_ble_eq_true rfl) dX12_table_52 (kIM (fun v163 s57 hS_s57 hF_s57 q164 => ?_))
            refine j_if_eq hx 163 dX12_table_55 rfl (by omega) (fun h165 => ?_) (fun h165 => ?_)
            · skip
              have f166 := zf hS_s57 ha (k := 0) rfl
              have f167 := zf hS_s57 ha (k := 3) rfl
              have f168 := zf hS_s57 ha (k := 7) rfl
              have f169 := zf hS_s57 ha (k := 21) rfl
              have f170 := zf hS_s57 ha (k := 22) rfl
              have f171 := zf hS_s57 ha (k := 23) rfl
              have f172 := zf hS_s57 ha (k := 24) rfl
              have f173 := zf hS_s57 ha (k := 38) rfl
              have f174 := zf hS_s57 ha (k := 51) rfl
              have f175 := zf hS_s57 ha (k := 52) rfl
              exact j_sub [0] [(0, .ref a)] rfl (c163_25 s57 hS_s57 (zFr_t zFr_rf hF_s57 (by decide)) (by omega) (by omega) (by omega) (by omega) (by omega) (by omega) (by omega) (by omega) (by omega) (by omega))
            · skip
              refine j_aload_n hx 0 dX12_table_58 rfl ?_
              have f176 := zf hS_s57 ha (k := 4) rfl
              have f177 := zf hS_s57 ha (k := 3) rfl
              have f178 := zf hS_s57 ha (k := 0) rfl
              have f179 := zf hS_s57 ha (k := 5) rfl
              have f180 := zf hS_s57 ha (k := 7) rfl
              have f181 := zf hS_s57 ha (k := 21) rfl
              have f182 := zf hS_s57 ha (k := 22) rfl
              have f183 := zf hS_s57 ha (k := 23) rfl
              have f184 := zf hS_s57 ha (k := 24) rfl
              have f185 := zf hS_s57 ha (k := 38) rfl
              have f186 := zf hS_s57 ha (k := 51) rfl
              have f187 := zf hS_s57 ha (k := 52) rfl
              refine j_callV hx hG (c_X12_word hst a) lk_RX12_250 ha (by decide) rfl rfl rfl rfl [] ⟨rfl, hG, hS_s57, ha, (by omega)⟩ rfl rfl ⟨by decide, by decide⟩ ⟨by decide, by decide⟩ (k2 := 0) (n2 := 0) rfl rfl (Nat.le_of_ble_eq_true rfl) dX12_table_59 (kIM (fun v188 s58 hS_s58 hF_s58 q189 => ?_))
              refine j_istore_n hx [(3, .int (zI v188)), (0, .ref a), (2, .int (zI v66))] dX12_table_62 (by decide) rfl ?_
              refine j_iload_n hx 0 dX12_table_63 rfl ?_
              refine j_callS hx (c_X12_isClause hst v188) lk_RX12_253 [.int (zI v188)] ⟨rfl, hG, hS_s58, (by omega)⟩ rfl rfl ⟨by decide, by decide⟩ ⟨by decide, by decide⟩ (k2 := 0) (n2 := 0) rfl rfl (Nat.le_of_ble_eq_true rfl) dX12_table_64 (kIP (fun v190 q191 => ?_))
              have f192 := zf hS_s58 ha (k := 0) rfl
              have f193 := zf hS_s58 ha (k := 3) rfl
              have f194 := zf hS_s58 ha (k := 4) rfl
              have f195 := zf hS_s58 ha (k := 7) rfl
              have f196 := zf hS_s58 ha (k := 21) rfl
              have f197 := zf hS_s58 ha (k := 22) rfl
              have f198 := zf hS_s58 ha (k := 23) rfl
              have f199 := zf hS_s58 ha (k := 24) rfl
              have f200 := zf hS_s58 ha (k := 38) rfl
              have f201 := zf hS_s58 ha (k := 51) rfl
              have f202 := zf hS_s58 ha (k := 52) rfl
              have f203 := zf hS_s58 ha (k := 5) rfl
              have c132_59 : ∀ (s60 : zS), (zSK G s60) → (zFr [13] G s58 s60) → (s60 a 0 = s58 a 0) → (s60 a 3 = s58 a 3) → (s60 a 4 = s58 a 4) → (s60 a 7 = s58 a 7) → (s60 a 21 = s58 a 21) → (s60 a 22 = s58 a 22) → (s60 a 23 = s58 a 23) → (s60 a 24 = s58 a 24) → (s60 a 38 = s58 a 38) → (s60 a 51 = s58 a 51) → (s60 a 52 = s58 a 52) → (zQi (s60 a 5) (s60 (gP G a 10)) (s60 a 21)) → (s60 a 5 = -1 → (v188 = tOf 0 → s60 a 21 ≠ 3) ∧ (v188 = tOf 1 → s60 a 23 ≠ 12)) → (s60 (gP G a 13) 0 + s60 (gP G a 13) 1 + s60 (gP G a 13) 2 = s60 a 22) → (s58 a 4 ≤ s60 a 4) → (s58 a 5 ≤ s60 a 5) → (s60 a 4 ≤ s60 a 3 + 2) → JJ X E 4 G s60 0 0 [(0, .ref a), (2, .int (zI v66)), (3, .int (zI v188))] 132 [] := by
                intro s60 hS_s60 hF_s60 fA63 fA64 fA65 fA66 fA67 fA68 fA69 fA70 fA71 fA72 fA73 fA74 fA75 fA76 fA77 fA78 fA79
                refine j_aload_n hx 0 dX12_table_132 rfl ?_
                refine j_callV hx hG (c_X12_fine hst a) lk_RX12_166 ha (by decide) rfl rfl rfl rfl [] ⟨rfl, hG, hS_s60, ha⟩ rfl rfl ⟨by decide, by decide⟩ ⟨by decide, by decide⟩ (k2 := 0) (n2 := 0) rfl rfl (Nat.le_of_ble_eq_true rfl) dX12_table_133 (kIP (fun v204 q205 => ?_))
                refine j_if_ne hx 142 dX12_table_136 rfl (by omega) (fun h206 => ?_) (fun h206 => ?_)
                · skip
                  refine j_aload_n hx 0 dX12_table_142 rfl ?_
                  have f207 := zf hS_s60 ha (k := 4) rfl
                  have f208 := zf hS_s60 ha (k := 3) rfl
                  have g209 : s60 (gP G a 9) (s60 a 4).toNat = s0 (gP G a 9) (s60 a 4).toNat := (by rw [(zFr_g hF_s60 (zr (k := 9) (t2 := 72) hG ha rfl) (by decide)), (zFr_g hF_s58 (zr (k := 9) (t2 := 72) hG ha rfl) (by decide)), (zFr_g hF_s57 (zr (k := 9) (t2 := 72) hG ha rfl) (by decide)), (zFr_g hF_s8 (zr (k := 9) (t2 := 72) hG ha rfl) (by decide)), (zFr_g hF_s6 (zr (k := 9) (t2 := 72) hG ha rfl) (by decide)), (zFr_g hF_s5 (zr (k := 9) (t2 := 72) hG ha rfl) (by decide)), e_s1, zU_at (Or.inl (zne ha (zr (k := 9) (t2 := 72) hG ha rfl) (by decide)))])
                  have f210 := zf hS_s60 ha (k := 0) rfl
                  have f211 := zf hS_s60 ha (k := 5) rfl
                  have f212 := zf hS_s60 ha (k := 7) rfl
                  have f213 := zf hS_s60 ha (k := 21) rfl
                  have f214 := zf hS_s60 ha (k := 22) rfl
                  have f215 := zf hS_s60 ha (k := 23) rfl
                  have f216 := zf hS_s60 ha (k := 24) rfl
                  have f217 := zf hS_s60 ha (k := 38) rfl
                  have f218 := zf hS_s60 ha (k := 51) rfl
                  have f219 := zf hS_s60 ha (k := 52) rfl
                  refine j_callV hx hG (c_X12_pass hst a) lk_RX12_256 ha (by decide) rfl rfl rfl rfl [] ⟨rfl, hG, hS_s60, ha, (by omega)⟩ rfl rfl ⟨by decide, by decide⟩ ⟨by decide, by decide⟩ (k2 := 0) (n2 := 0) rfl rfl (Nat.le_of_ble_eq_true rfl) dX12_table_143 (kVM (fun s80 hS_s80 hF_s80 q221 => ?_))
                  refine j_aload_n hx 0 dX12_table_146 rfl ?_
                  refine j_iload_n hx 2 dX12_table_147 rfl ?_
                  have f222 := zf hS_s80 ha (k := 5) rfl
                  have f223 := zf hS_s80 ha (k := 21) rfl
                  have g224 : s80 (gP G a 13) 0 = s8 (gP G a 13) 0 := (by rw [(zFr_g hF_s80 (zr (k := 13) (t2 := 76) hG ha rfl) (by decide)), (zFr_g hF_s60 (zr (k := 13) (t2 := 76) hG ha rfl) (by decide)), (zFr_g hF_s58 (zr (k := 13) (t2 := 76) hG ha rfl) (by decide)), (zFr_g hF_s57 (zr (k := 13) (t2 := 76) hG ha rfl) (by decide))])
                  have g225 : s80 (gP G a 13) 1 = s8 (gP G a 13) 1 := (by rw [(zFr_g hF_s80 (zr (k := 13) (t2 := 76) hG ha rfl) (by decide)), (zFr_g hF_s60 (zr (k := 13) (t2 := 76) hG ha rfl) (by decide)), (zFr_g hF_s58 (zr (k := 13) (t2 := 76) hG ha rfl) (by decide)), (zFr_g hF_s57 (zr (k := 13) (t2 := 76) hG ha rfl) (by decide))])
                  have g226 : s80 (gP G a 13) 2 = s8 (gP G a 13) 2 := (by rw [(zFr_g hF_s80 (zr (k := 13) (t2 := 76) hG ha rfl) (by decide)), (zFr_g hF_s60 (zr (k := 13) (t2 := 76) hG ha rfl) (by decide)), (zFr_g hF_s58 (zr (k := 13) (t2 := 76) hG ha rfl) (by decide)), (zFr_g hF_s57 (zr (k := 13) (t2 := 76) hG ha rfl) (by decide))])
                  have f227 := zf hS_s80 ha (k := 22) rfl
                  have f228 := zf hS_s80 ha (k := 23) rfl
                  have f229 := zf hS_s80 ha (k := 4) rfl
                  have f230 := zf hS_s80 ha (k := 3) rfl
                  have f231 := zf hS_s80 ha (k := 0) rfl
                  have f232 := zf hS_s80 ha (k := 7) rfl
                  have f233 := zf hS_s80 ha (k := 24) rfl
                  have f234 := zf hS_s80 ha (k := 38) rfl
                  have f235 := zf hS_s80 ha (k := 51) rfl
                  have f236 := zf hS_s80 ha (k := 52) rfl
                  refine j_callV hx hG (c_X12_readClause hst a v188) lk_RX12_259 ha (by decide) rfl rfl rfl rfl [.int (zI v188)] ⟨rfl, hG, hS_s80, ha, (by omega), ((by have q1 : s80 (gP G a 10) = s60 (gP G a 10) := (by rw [hF_s80 (gP G a 10) (by rw [(zr (k := 10) (t2 := 73) hG ha rfl)]; decide)]); rw [q1]; exact (zQi_k fA74 (by omega) (by omega)))), (by omega), (by omega), (by omega), (by omega)⟩ rfl rfl ⟨by decide, by decide⟩ ⟨by decide, by decide⟩ (k2 := 0) (n2 := 0) rfl rfl (Nat.le_of_ble_eq_true rfl) dX12_table_148 (kVM (fun s81 hS_s81 hF_s81 q238 => ?_))
                  refine j_aload_n hx 0 dX12_table_151 rfl ?_
                  refine j_bipush hx dX12_table_152 rfl ?_
                  have f239 := zf hS_s81 ha (k := 4) rfl
                  have f240 := zf hS_s81 ha (k := 3) rfl
                  have f241 := zf hS_s81 ha (k := 5) rfl
                  have f242 := zf hS_s81 ha (k := 0) rfl
                  have f243 := zf hS_s81 ha (k := 7) rfl
                  have f244 := zf hS_s81 ha (k := 21) rfl
                  have f245 := zf hS_s81 ha (k := 22) rfl
                  have f246 := zf hS_s81 ha (k := 23) rfl
                  have f247 := zf hS_s81 ha (k := 24) rfl
                  have f248 := zf hS_s81 ha (k := 38) rfl
                  have f249 := zf hS_s81 ha (k := 51) rfl
                  have f250 := zf hS_s81 ha (k := 52) rfl
                  refine j_callV hx hG (c_X12_sign hst a 59) lk_RX12_262 ha (by decide) rfl rfl rfl rfl [.int (zI 59)] ⟨rfl, hG, hS_s81, ha, (by omega), (by omega)⟩ rfl rfl ⟨by decide, by decide⟩ ⟨by decide, by decide⟩ (k2 := 0) (n2 := 0) rfl rfl (Nat.le_of_ble_eq_true rfl) dX12_table_154 (kVM (fun s82 hS_s82 hF_s82 q252 => ?_))
                  refine j_iincN hx 1 (fun v253 => [(2, .int (zI v253)), (0, .ref a), (3, .int (zI v188))]) dX12_table_157 rfl (by decide) (fun _ => rfl) (fun v253 f254 f255 f256 => ?_)
                  refine j_goto hx 44 dX12_table_160 rfl ?_
                  have f257 := zf hS_s82 ha (k := 4) rfl
                  have f258 := zf hS_s82 ha (k := 5) rfl
                  have f259 := zf hS_s82 ha (k := 0) rfl
                  have f260 := zf hS_s82 ha (k := 3) rfl
                  have f261 := zf hS_s82 ha (k := 7) rfl
                  have f262 := zf hS_s82 ha (k := 24) rfl
                  have f263 := zf hS_s82 ha (k := 38) rfl
                  have f264 := zf hS_s82 ha (k := 51) rfl
                  have f265 := zf hS_s82 ha (k := 52) rfl
                  have f266 := zf hS_s82 ha (k := 21) rfl
                  have g267 : s82 (gP G a 13) 0 = s81 (gP G a 13) 0 := (by rw [(zFr_g hF_s82 (zr (k := 13) (t2 := 76) hG ha rfl) (by decide))])
                  have g268 : s82 (gP G a 13) 1 = s81 (gP G a 13) 1 := (by rw [(zFr_g hF_s82 (zr (k := 13) (t2 := 76) hG ha rfl) (by decide))])
                  have g269 : s82 (gP G a 13) 2 = s81 (gP G a 13) 2 := (by rw [(zFr_g hF_s82 (zr (k := 13) (t2 := 76) hG ha rfl) (by decide))])
                  have f270 := zf hS_s82 ha (k := 22) rfl
                  exact j_sub [1, 0] [(0, .ref a), (2, .int (zI v253))] rfl (ih_c44_7 v253 s82 (by omega) (by omega) hS_s82 (zFr_t (zFr_t (zFr_t (zFr_t (zFr_t (zFr_t (zFr_t zFr_rf hF_s8 (by decide)) hF_s57 (by decide)) hF_s58 (by decide)) hF_s60 (by decide)) hF_s80 (by decide)) hF_s81 (by decide)) hF_s82 (by decide)) (by omega) (by omega) (by omega) (by omega) (by omega) (by omega) (by omega) (by have q1 : s82 (gP G a 10) = s81 (gP G a 10) := (by rw [hF_s82 (gP G a 10) (by rw [(zr (k := 10) (t2 := 73) hG ha rfl)]; decide)]); rw [q1]; exact (zQi_k q238.2.2.1 (by omega) (by omega))) (by omega) (by omega) (by omega) (by omega) (by omega))
                · skip
                  refine j_goto hx 163 dX12_table_139 rfl ?_
                  have f271 := zf hS_s60 ha (k := 0) rfl
                  have f272 := zf hS_s60 ha (k := 3) rfl
                  have f273 := zf hS_s60 ha (k := 7) rfl
                  have f274 := zf hS_s60 ha (k := 21) rfl
                  have f275 := zf hS_s60 ha (k := 22) rfl
                  have f276 := zf hS_s60 ha (k := 23) rfl
                  have f277 := zf hS_s60 ha (k := 24) rfl
                  have f278 := zf hS_s60 ha (k := 38) rfl
                  have f279 := zf hS_s60 ha (k := 51) rfl
                  have f280 := zf hS_s60 ha (k := 52) rfl
                  exact j_sub [0] [(0, .ref a)] rfl (c163_25 s60 hS_s60 (zFr_t (zFr_t (zFr_t zFr_rf hF_s57 (by decide)) hF_s58 (by decide)) hF_s60 (by decide)) (by omega) (by omega) (by omega) (by omega) (by omega) (by omega) (by omega) (by omega) (by omega) (by omega))
              refine j_if_ne hx 82 dX12_table_67 rfl (by omega) (fun h281 => ?_) (fun h281 => ?_)
              · skip
                refine j_iload_n hx 2 dX12_table_82 rfl ?_
                refine j_bipush hx dX12_table_83 rfl ?_
                have c123_83 : JJ X E 4 G s58 0 0 [(0, .ref a), (2, .int (zI v66)), (3, .int (zI v188))] 123 [] := by
                  refine j_aload_n hx 0 dX12_table_123 rfl ?_
                  refine j_iconst hx dX12_table_124 ?_
                  refine j_aload_n hx 0 dX12_table_125 rfl ?_
                  refine g13_4 hx hG ha kf_RX12_143 rfl dX12_table_126 ?_
                  refine j_callV hx hG (c_X12_wrong hst a 3 ((s58 a 4))) lk_RX12_173 ha (by decide) rfl rfl rfl rfl [.int (zI 3), .int (zI ((s58 a 4)))] ⟨rfl, hG, hS_s58, ha, (by omega), (by omega)⟩ rfl rfl ⟨by decide, by decide⟩ ⟨by decide, by decide⟩ (k2 := 0) (n2 := 0) rfl rfl (Nat.le_of_ble_eq_true rfl) dX12_table_129 (kVM (fun s84 hS_s84 hF_s84 q283 => ?_))
                  have f284 := zf hS_s84 ha (k := 0) rfl
                  have f285 := zf hS_s84 ha (k := 3) rfl
                  have f286 := zf hS_s84 ha (k := 4) rfl
                  have f287 := zf hS_s84 ha (k := 7) rfl
                  have f288 := zf hS_s84 ha (k := 21) rfl
                  have f289 := zf hS_s84 ha (k := 22) rfl
                  have f290 := zf hS_s84 ha (k := 23) rfl
                  have f291 := zf hS_s84 ha (k := 24) rfl
                  have f292 := zf hS_s84 ha (k := 38) rfl
                  have f293 := zf hS_s84 ha (k := 51) rfl
                  have f294 := zf hS_s84 ha (k := 52) rfl
                  have f295 := zf hS_s84 ha (k := 5) rfl
                  have g296 : s84 (gP G a 13) 0 = s8 (gP G a 13) 0 := (by rw [(zFr_g hF_s84 (zr (k := 13) (t2 := 76) hG ha rfl) (by decide)), (zFr_g hF_s58 (zr (k := 13) (t2 := 76) hG ha rfl) (by decide)), (zFr_g hF_s57 (zr (k := 13) (t2 := 76) hG ha rfl) (by decide))])
                  have g297 : s84 (gP G a 13) 1 = s8 (gP G a 13) 1 := (by rw [(zFr_g hF_s84 (zr (k := 13) (t2 := 76) hG ha rfl) (by decide)), (zFr_g hF_s58 (zr (k := 13) (t2 := 76) hG ha rfl) (by decide)), (zFr_g hF_s57 (zr (k := 13) (t2 := 76) hG ha rfl) (by decide))])
                  have g298 : s84 (gP G a 13) 2 = s8 (gP G a 13) 2 := (by rw [(zFr_g hF_s84 (zr (k := 13) (t2 := 76) hG ha rfl) (by decide)), (zFr_g hF_s58 (zr (k := 13) (t2 := 76) hG ha rfl) (by decide)), (zFr_g hF_s57 (zr (k := 13) (t2 := 76) hG ha rfl) (by decide))])
                  exact j_sub [0, 1, 2] [(0, .ref a), (2, .int (zI v66)), (3, .int (zI v188))] rfl (c132_59 s84 hS_s84 (zFr_t zFr_rf hF_s84 (by decide)) (by omega) (by omega) (by omega) (by omega) (by omega) (by omega) (by omega) (by omega) (by omega) (by omega) (by omega) (by have q1 : s84 (gP G a 10) = s8 (gP G a 10) := (by rw [hF_s84 (gP G a 10) (by rw [(zr (k := 10) (t2 := 73) hG ha rfl)]; decide), hF_s58 (gP G a 10) (by rw [(zr (k := 10) (t2 := 73) hG ha rfl)]; decide), hF_s57 (gP G a 10) (by rw [(zr (k := 10) (t2 := 73) hG ha rfl)]; decide)]); rw [q1]; exact (zQi_k fA19 (by omega) (by omega))) (by omega) (by omega) (by omega) (by omega) (by omega))
                refine j_icmp_eq hx 123 dX12_table_85 rfl (by omega) ⟨by decide, by decide⟩ (fun h299 => ?_) (fun h299 => ?_)
                · skip
                  exact j_sub [1, 2, 0] [(0, .ref a), (2, .int (zI v66)), (3, .int (zI v188))] rfl (c123_83  )
                · skip
                  refine j_iload_n hx 0 dX12_table_88 rfl ?_
                  refine j_ldcT hx (i := 0) 20 (by decide) rfl rfl rfl dX12_table_89 ?_
                  refine j_callS hx (c_X12_of hst 0) lk_RX12_215 [.ref (zTa E 0)] ⟨rfl, hG, hS_s58, (by decide)⟩ rfl rfl ⟨by decide, by decide⟩ ⟨by decide, by decide⟩ (k2 := 0) (n2 := 0) rfl rfl (Nat.le_of_ble_eq_true rfl) dX12_table_91 (kIP (fun v300 q301 => ?_))
                  have c105_85 : JJ X E 4 G s58 0 0 [(0, .ref a), (2, .int (zI v66)), (3, .int (zI v188))] 105 [] := by
                    refine j_iload_n hx 2 dX12_table_105 rfl ?_
                    refine j_ldcT hx (i := 1) 27 (by decide) rfl rfl rfl dX12_table_106 ?_
                    refine j_callS hx (c_X12_of hst 1) lk_RX12_215 [.ref (zTa E 1)] ⟨rfl, hG, hS_s58, (by decide)⟩ rfl rfl ⟨by decide, by decide⟩ ⟨by decide, by decide⟩ (k2 := 0) (n2 := 0) rfl rfl (Nat.le_of_ble_eq_true rfl) dX12_table_108 (kIP (fun v302 q303 => ?_))
                    refine j_icmp_ne hx 132 dX12_table_111 rfl (by omega) (by omega) (fun h304 => ?_) (fun h304 => ?_)
                    · skip
                      have g305 : s58 (gP G a 13) 0 = s8 (gP G a 13) 0 := (by rw [(zFr_g hF_s58 (zr (k := 13) (t2 := 76) hG ha rfl) (by decide)), (zFr_g hF_s57 (zr (k := 13) (t2 := 76) hG ha rfl) (by decide))])
                      have g306 : s58 (gP G a 13) 1 = s8 (gP G a 13) 1 := (by rw [(zFr_g hF_s58 (zr (k := 13) (t2 := 76) hG ha rfl) (by decide)), (zFr_g hF_s57 (zr (k := 13) (t2 := 76) hG ha rfl) (by decide))])
                      have g307 : s58 (gP G a 13) 2 = s8 (gP G a 13) 2 := (by rw [(zFr_g hF_s58 (zr (k := 13) (t2 := 76) hG ha rfl) (by decide)), (zFr_g hF_s57 (zr (k := 13) (t2 := 76) hG ha rfl) (by decide))])
                      exact j_sub [0, 1, 2] [(0, .ref a), (2, .int (zI v66)), (3, .int (zI v188))] rfl (c132_59 s58 hS_s58 zFr_rf (by omega) (by omega) (by omega) (by omega) (by omega) (by omega) (by omega) (by omega) (by omega) (by omega) (by omega) (by have q1 : s58 (gP G a 10) = s8 (gP G a 10) := (by rw [hF_s58 (gP G a 10) (by rw [(zr (k := 10) (t2 := 73) hG ha rfl)]; decide), hF_s57 (gP G a 10) (by rw [(zr (k := 10) (t2 := 73) hG ha rfl)]; decide)]); rw [q1]; exact (zQi_k fA19 (by omega) (by omega))) (by omega) (by omega) (by omega) (by omega) (by omega))
                    · skip
                      refine j_aload_n hx 0 dX12_table_114 rfl ?_
                      refine g13_23 hx hG ha kf_RX12_186 rfl dX12_table_115 ?_
                      refine j_bipush hx dX12_table_118 rfl ?_
                      refine j_icmp_ne hx 132 dX12_table_120 rfl (by omega) ⟨by decide, by decide⟩ (fun h308 => ?_) (fun h308 => ?_)
                      · skip
                        have g309 : s58 (gP G a 13) 0 = s8 (gP G a 13) 0 := (by rw [(zFr_g hF_s58 (zr (k := 13) (t2 := 76) hG ha rfl) (by decide)), (zFr_g hF_s57 (zr (k := 13) (t2 := 76) hG ha rfl) (by decide))])
                        have g310 : s58 (gP G a 13) 1 = s8 (gP G a 13) 1 := (by rw [(zFr_g hF_s58 (zr (k := 13) (t2 := 76) hG ha rfl) (by decide)), (zFr_g hF_s57 (zr (k := 13) (t2 := 76) hG ha rfl) (by decide))])
                        have g311 : s58 (gP G a 13) 2 = s8 (gP G a 13) 2 := (by rw [(zFr_g hF_s58 (zr (k := 13) (t2 := 76) hG ha rfl) (by decide)), (zFr_g hF_s57 (zr (k := 13) (t2 := 76) hG ha rfl) (by decide))])
                        exact j_sub [0, 1, 2] [(0, .ref a), (2, .int (zI v66)), (3, .int (zI v188))] rfl (c132_59 s58 hS_s58 zFr_rf (by omega) (by omega) (by omega) (by omega) (by omega) (by omega) (by omega) (by omega) (by omega) (by omega) (by omega) (by have q1 : s58 (gP G a 10) = s8 (gP G a 10) := (by rw [hF_s58 (gP G a 10) (by rw [(zr (k := 10) (t2 := 73) hG ha rfl)]; decide), hF_s57 (gP G a 10) (by rw [(zr (k := 10) (t2 := 73) hG ha rfl)]; decide)]); rw [q1]; exact (zQi_k fA19 (by omega) (by omega))) (by omega) (by omega) (by omega) (by omega) (by omega))
                      · skip
                        exact j_sub [0, 1, 2] [(0, .ref a), (2, .int (zI v66)), (3, .int (zI v188))] rfl (c123_83  )
                  refine j_icmp_ne hx 105 dX12_table_94 rfl (by omega) (by omega) (fun h312 => ?_) (fun h312 => ?_)
                  · skip
                    exact j_sub [1, 2, 0] [(0, .ref a), (2, .int (zI v66)), (3, .int (zI v188))] rfl (c105_85  )
                  · skip
                    refine j_aload_n hx 1 dX12_table_97 rfl ?_
                    refine g13_21 hx hG ha kf_RX12_180 rfl dX12_table_98 ?_
                    refine j_iconst hx dX12_table_101 ?_
                    refine j_icmp_eq hx 123 dX12_table_102 rfl (by omega) ⟨by decide, by decide⟩ (fun h313 => ?_) (fun h313 => ?_)
                    · skip
                      exact j_sub [1, 2, 0] [(0, .ref a), (2, .int (zI v66)), (3, .int (zI v188))] rfl (c123_83  )
                    · skip
                      exact j_sub [1, 2, 0] [(0, .ref a), (2, .int (zI v66)), (3, .int (zI v188))] rfl (c105_85  )
              · skip
                refine j_aload_n hx 1 dX12_table_70 rfl ?_
                refine j_iconst hx dX12_table_71 ?_
                refine j_aload_n hx 1 dX12_table_72 rfl ?_
                refine g13_4 hx hG ha kf_RX12_143 rfl dX12_table_73 ?_
                refine j_callV hx hG (c_X12_wrong hst a 1 ((s58 a 4))) lk_RX12_173 ha (by decide) rfl rfl rfl rfl [.int (zI 1), .int (zI ((s58 a 4)))] ⟨rfl, hG, hS_s58, ha, (by omega), (by omega)⟩ rfl rfl ⟨by decide, by decide⟩ ⟨by decide, by decide⟩ (k2 := 0) (n2 := 0) rfl rfl (Nat.le_of_ble_eq_true rfl) dX12_table_76 (kVM (fun s86 hS_s86 hF_s86 q315 => ?_))
                refine j_goto hx 132 dX12_table_79 rfl ?_
                have f316 := zf hS_s86 ha (k := 0) rfl
                have f317 := zf hS_s86 ha (k := 3) rfl
                have f318 := zf hS_s86 ha (k := 4) rfl
                have f319 := zf hS_s86 ha (k := 7) rfl
                have f320 := zf hS_s86 ha (k := 21) rfl
                have f321 := zf hS_s86 ha (k := 22) rfl
                have f322 := zf hS_s86 ha (k := 23) rfl
                have f323 := zf hS_s86 ha (k := 24) rfl
                have f324 := zf hS_s86 ha (k := 38) rfl
                have f325 := zf hS_s86 ha (k := 51) rfl
                have f326 := zf hS_s86 ha (k := 52) rfl
                have f327 := zf hS_s86 ha (k := 5) rfl
                have g328 : s86 (gP G a 13) 0 = s8 (gP G a 13) 0 := (by rw [(zFr_g hF_s86 (zr (k := 13) (t2 := 76) hG ha rfl) (by decide)), (zFr_g hF_s58 (zr (k := 13) (t2 := 76) hG ha rfl) (by decide)), (zFr_g hF_s57 (zr (k := 13) (t2 := 76) hG ha rfl) (by decide))])
                have g329 : s86 (gP G a 13) 1 = s8 (gP G a 13) 1 := (by rw [(zFr_g hF_s86 (zr (k := 13) (t2 := 76) hG ha rfl) (by decide)), (zFr_g hF_s58 (zr (k := 13) (t2 := 76) hG ha rfl) (by decide)), (zFr_g hF_s57 (zr (k := 13) (t2 := 76) hG ha rfl) (by decide))])
                have g330 : s86 (gP G a 13) 2 = s8 (gP G a 13) 2 := (by rw [(zFr_g hF_s86 (zr (k := 13) (t2 := 76) hG ha rfl) (by decide)), (zFr_g hF_s58 (zr (k := 13) (t2 := 76) hG ha rfl) (by decide)), (zFr_g hF_s57 (zr (k := 13) (t2 := 76) hG ha rfl) (by decide))])
                exact j_sub [1, 2, 0] [(0, .ref a), (2, .int (zI v66)), (3, .int (zI v188))] rfl (c132_59 s86 hS_s86 (zFr_t zFr_rf hF_s86 (by decide)) (by omega) (by omega) (by omega) (by omega) (by omega) (by omega) (by omega) (by omega) (by omega) (by omega) (by omega) (by have q1 : s86 (gP G a 10) = s8 (gP G a 10) := (by rw [hF_s86 (gP G a 10) (by rw [(zr (k := 10) (t2 := 73) hG ha rfl)]; decide), hF_s58 (gP G a 10) (by rw [(zr (k := 10) (t2 := 73) hG ha rfl)]; decide), hF_s57 (gP G a 10) (by rw [(zr (k := 10) (t2 := 73) hG ha rfl)]; decide)]); rw [q1]; exact (zQi_k fA19 (by omega) (by omega))) (by omega) (by omega) (by omega) (by omega) (by omega))
      have f331 := zf hS_s6 ha (k := 5) rfl
      exact j_sub [1, 0] [(0, .ref a), (2, .int (zI 0))] rfl (c44_7 (2147483648 * 4) 0 s6 (by omega) (by omega) hS_s6 zFr_rf (by omega) (by omega) (by omega) (by omega) (by omega) (by omega) (by omega) (zQi_k hP65 (by omega) (by omega)) (by omega) (by omega) (by omega) (by omega) (by omega))
  have c22_87 : JJ X E 4 G s1 0 0 [(0, .ref a), (1, .int (zI x1))] 22 [.ref a] := by
    refine j_iconst hx dX12_table_22 ?_
    exact j_sub [0, 1] [(0, .ref a), (1, .int (zI x1))] rfl (c23_2 0 (by omega))
  refine j_if_lt hx 22 dX12_table_7 rfl (by omega) (fun h332 => ?_) (fun h332 => ?_)
  · skip
    exact j_sub [0, 1] [(0, .ref a), (1, .int (zI x1))] rfl (c22_87  )
  · skip
    refine j_iload_n hx 1 dX12_table_10 rfl ?_
    refine j_aload_n hx 0 dX12_table_11 rfl ?_
    have f333 := zf hS0 ha (k := 2) rfl
    refine g13_2 hx hG ha kf_RX12_134 (v := (s0 a 2)) (by rw [e_s1, zU_at (Or.inr (by decide))]) dX12_table_12 ?_
    refine j_icmp_gt hx 22 dX12_table_15 rfl (by omega) (by omega) (fun h334 => ?_) (fun h334 => ?_)
    · skip
      exact j_sub [0, 1] [(0, .ref a), (1, .int (zI x1))] rfl (c22_87  )
    · skip
      refine j_iconst hx dX12_table_18 ?_
      refine j_goto hx 23 dX12_table_19 rfl ?_
      exact j_sub [0, 1] [(0, .ref a), (1, .int (zI x1))] rfl (c23_2 1 (by omega))
