theorem lk_RX12_240 : LkV RX12 240 RX12 yX12_may cX12_may 4 (some .boolean) 3 := ⟨km_RX12_240, ki_yX12_may, ks_RX12_yX12_may, kn_RX12, kc_yX12_may, rfl, by decide +kernel, by decide +kernel, by decide +kernel⟩
theorem lk_RX12_244 : LkV RX12 244 RX12 yX12_begins cX12_begins 2 none 1 := ⟨km_RX12_244, ki_yX12_begins, ks_RX12_yX12_begins, kn_RX12, kc_yX12_begins, rfl, by decide +kernel, by decide +kernel, by decide +kernel⟩
theorem lk_RX12_128 : LkV RX12 128 RX12 yX12_clears cX12_clears 2 none 0 := ⟨km_RX12_128, ki_yX12_clears, ks_RX12_yX12_clears, kn_RX12, kc_yX12_clears, rfl, by decide +kernel, by decide +kernel, by decide +kernel⟩
theorem lk_RX12_265 : LkV RX12 265 RX12 yX12_result cX12_result 2 (some .int) 1 := ⟨km_RX12_265, ki_yX12_result, ks_RX12_yX12_result, kn_RX12, kc_yX12_result, rfl, by decide +kernel, by decide +kernel, by decide +kernel⟩
theorem lk_RX12_131 : LkV RX12 131 RX12 yX12_sets cX12_sets 4 none 0 := ⟨km_RX12_131, ki_yX12_sets, ks_RX12_yX12_sets, kn_RX12, kc_yX12_sets, rfl, by decide +kernel, by decide +kernel, by decide +kernel⟩
theorem lk_RX12_247 : LkV RX12 247 RX12 yX12_isMore cX12_isMore 1 (some .boolean) 0 := ⟨km_RX12_247, ki_yX12_isMore, ks_RX12_yX12_isMore, kn_RX12, kc_yX12_isMore, rfl, by decide +kernel, by decide +kernel, by decide +kernel⟩
theorem lk_RX12_250 : LkV RX12 250 RX12 yX12_word cX12_word 4 (some .int) 0 := ⟨km_RX12_250, ki_yX12_word, ks_RX12_yX12_word, kn_RX12, kc_yX12_word, rfl, by decide +kernel, by decide +kernel, by decide +kernel⟩
theorem lk_RX12_253 : LkS RX12 253 yX12_isClause cX12_isClause 1 (some .boolean) 1 := ⟨km_RX12_253, kst_yX12_isClause, kn_RX12, kc_yX12_isClause, by decide +kernel, by decide +kernel, by decide +kernel⟩
theorem lk_RX12_256 : LkV RX12 256 RX12 yX12_pass cX12_pass 1 none 0 := ⟨km_RX12_256, ki_yX12_pass, ks_RX12_yX12_pass, kn_RX12, kc_yX12_pass, rfl, by decide +kernel, by decide +kernel, by decide +kernel⟩
theorem lk_RX12_259 : LkV RX12 259 RX12 yX12_readClause cX12_readClause 4 none 1 := ⟨km_RX12_259, ki_yX12_readClause, ks_RX12_yX12_readClause, kn_RX12, kc_yX12_readClause, rfl, by decide +kernel, by decide +kernel, by decide +kernel⟩
theorem lk_RX12_262 : LkV RX12 262 RX12 yX12_sign cX12_sign 2 none 1 := ⟨km_RX12_262, ki_yX12_sign, ks_RX12_yX12_sign, kn_RX12, kc_yX12_sign, rfl, by decide +kernel, by decide +kernel, by decide +kernel⟩
set_option maxHeartbeats 1200000 in
set_option maxRecDepth 20000 in
theorem c_X12_table {E : zE} {l : Launch} (hst : l.stackTraces = false) (a : Nat) (x1 : Int) : Con E l yX12_table cX12_table 4 (some .int) { frames := 7, cells := 0, slots := 0, locals := 265 } (fun G s vs => vs = [.ref a, .int (zI x1)] ∧ zGK G ∧ zSK G s ∧ (gT G a = 13) ∧ ((-2147483648) ≤ x1 ∧ x1 ≤ 2147483647) ∧ (zc (s (gP G a 27)) ≤ 60) ∧ (zc (s (gP G a 28)) ≤ 60) ∧ (zRva (s (gP G a 34)) (s (gP G a 35)) (s (gP G a 37))) ∧ (zQn (s (gP G a 17)) (s a 24))) (fun G s _ => pI (fun r G2 s2 => G2 = G ∧ zSK G s2 ∧ zFr [13, 71, 73, 74, 75, 76, 77, 78, 79, 80, 81, 82, 83, 84, 85, 87, 91, 94] G s s2 ∧ ((-2147483648) ≤ r ∧ r ≤ 2147483647) ∧ zc (s2 (gP G a 27)) ≤ 60 ∧ zc (s2 (gP G a 28)) ≤ 60 ∧ (s2 (gP G a 27) 488 = s (gP G a 27) 488 ∨ s2 (gP G a 27) 488 = 0) ∧ (s2 (gP G a 28) 488 = s (gP G a 28) 488 ∨ s2 (gP G a 28) 488 = 0) ∧ zRva (s2 (gP G a 34)) (s2 (gP G a 35)) (s2 (gP G a 37)) ∧ zQn (s2 (gP G a 17)) (s2 a 24) ∧ s2 a 38 = s a 38 ∧ s2 a 51 = s a 51 ∧ s2 a 52 = s a 52)) := by
  refine Con.mk hst (by decide) (fun G s vs h => by rw [h.1]; exact Nat.le_of_ble_eq_true rfl) ?_
  rintro X G s0 vs ⟨rfl, hG, hS0, ha, hx1, e0, e1, e2, e3⟩ rfl hx hq
  show JJ X E 4 G s0 0 0 [(0, .ref a), (1, .int (zI x1))] 0 []
  refine j_aload_n hx 0 dX12_table_0 rfl ?_
  refine j_iconst hx dX12_table_1 ?_
  refine p13_0 hx hG ha kf_RX12_3 dX12_table_2 ?_
  obtain ⟨s1, e_s1⟩ : ∃ z, z = zU s0 a 0 0 := ⟨_, rfl⟩
  rw [← e_s1]
  have hS_s1 : zSK G s1 := by rw [e_s1]; exact zSK_F hS0 ha rfl rfl rfl (by omega)
  refine j_aload_n hx 0 dX12_table_5 rfl ?_
  refine j_iload_n hx 1 dX12_table_6 rfl ?_
  have c23_2 : ∀ (v1 : Int), (0 ≤ v1 ∧ v1 ≤ 1) → (v1 = 1 → (0 ≤ x1 ∧ x1 ≤ 600)) → JJ X E 4 G s1 0 0 [(0, .ref a), (1, .int (zI x1))] 23 [.int (zI v1), .ref a] := by
    intro v1 fA3 fA4
    refine j_iconst hx dX12_table_23 ?_
    refine j_iconst hx dX12_table_24 ?_
    rcases (show v1 = 0 ∨ v1 = 1 by omega) with rfl | rfl
    · skip
      have g3 : s1 a 0 = 0 := (by rw [e_s1, zU_eq])
      have g4 : s1 a 3 = s0 a 3 := (by rw [e_s1, zU_at (Or.inr (by decide))])
      have f5 := zf hS0 ha (k := 3) rfl
      have g6 : s1 a 4 = s0 a 4 := (by rw [e_s1, zU_at (Or.inr (by decide))])
      have f7 := zf hS0 ha (k := 4) rfl
      have g8 : s1 a 5 = s0 a 5 := (by rw [e_s1, zU_at (Or.inr (by decide))])
      have f9 := zf hS0 ha (k := 5) rfl
      have g10 : s1 a 7 = s0 a 7 := (by rw [e_s1, zU_at (Or.inr (by decide))])
      have f11 := zf hS0 ha (k := 7) rfl
      have g12 : s1 a 21 = s0 a 21 := (by rw [e_s1, zU_at (Or.inr (by decide))])
      have f13 := zf hS0 ha (k := 21) rfl
      have g14 : s1 a 22 = s0 a 22 := (by rw [e_s1, zU_at (Or.inr (by decide))])
      have f15 := zf hS0 ha (k := 22) rfl
      have g16 : s1 a 23 = s0 a 23 := (by rw [e_s1, zU_at (Or.inr (by decide))])
      have f17 := zf hS0 ha (k := 23) rfl
      have g18 : s1 a 24 = s0 a 24 := (by rw [e_s1, zU_at (Or.inr (by decide))])
      have f19 := zf hS0 ha (k := 24) rfl
      have g20 : s1 a 38 = s0 a 38 := (by rw [e_s1, zU_at (Or.inr (by decide))])
      have f21 := zf hS0 ha (k := 38) rfl
      have g22 : s1 a 51 = s0 a 51 := (by rw [e_s1, zU_at (Or.inr (by decide))])
      have f23 := zf hS0 ha (k := 51) rfl
      have g24 : s1 a 52 = s0 a 52 := (by rw [e_s1, zU_at (Or.inr (by decide))])
      have f25 := zf hS0 ha (k := 52) rfl
      refine j_callV hx hG (c_X12_may_f hst a 0 1 1) lk_RX12_240 ha (by decide) rfl rfl rfl rfl [.int (zI 0), .int (zI 1), .int (zI 1)] ⟨rfl, hG, hS_s1, ha, (by omega), (by omega), (by omega), (((by rw [e_s1, zU_eq]) : s1 a 0 = 0).trans (by omega))⟩ rfl rfl ⟨by decide, by decide⟩ ⟨by decide, by decide⟩ (k2 := 0) (n2 := 0) rfl rfl (Nat.le_of_ble_eq_true rfl) dX12_table_25 (kIM (fun v26 s5 hS_s5 hF_s5 q27 => ?_))
      refine j_if_ne hx 33 dX12_table_28 rfl (by omega) (fun h28 => absurd h28 (by omega)) (fun h28 => ?_)
      refine j_iconst hx dX12_table_31 ?_
      have g29 : zc (s5 (gP G a 27)) = zc (s0 (gP G a 27)) := by rw [hF_s5 (gP G a 27) (by rw [(zr (k := 27) (t2 := 84) hG ha rfl)]; decide), e_s1, zU_ne (zne ha (zr (k := 27) (t2 := 84) hG ha rfl) (by decide))]
      have g30 : zc (s5 (gP G a 28)) = zc (s0 (gP G a 28)) := by rw [hF_s5 (gP G a 28) (by rw [(zr (k := 28) (t2 := 85) hG ha rfl)]; decide), e_s1, zU_ne (zne ha (zr (k := 28) (t2 := 85) hG ha rfl) (by decide))]
      have g31 : s5 (gP G a 27) 488 = s0 (gP G a 27) 488 := (by rw [(zFr_g hF_s5 (zr (k := 27) (t2 := 84) hG ha rfl) (by decide)), e_s1, zU_at (Or.inl (zne ha (zr (k := 27) (t2 := 84) hG ha rfl) (by decide)))])
      have g32 : s5 (gP G a 28) 488 = s0 (gP G a 28) 488 := (by rw [(zFr_g hF_s5 (zr (k := 28) (t2 := 85) hG ha rfl) (by decide)), e_s1, zU_at (Or.inl (zne ha (zr (k := 28) (t2 := 85) hG ha rfl) (by decide)))])
      have f33 := zf hS_s5 ha (k := 24) rfl
      have f34 := zf hS_s5 ha (k := 38) rfl
      have f35 := zf hS_s5 ha (k := 51) rfl
      have f36 := zf hS_s5 ha (k := 52) rfl
      exact j_iret hx hq rfl (by decide) (by decide) dX12_table_32 ⟨0, rfl, rfl, hS_s5, (zFr_t (zFr_u zFr_rf e_s1 ha (by decide)) hF_s5 (by decide)), ⟨(by omega), by omega, by omega, by omega, by omega, (by have q1 : s5 (gP G a 34) = s0 (gP G a 34) := (by rw [hF_s5 (gP G a 34) (by rw [(zr (k := 34) (t2 := 91) hG ha rfl)]; decide), e_s1, zU_ne (zne ha (zr (k := 34) (t2 := 91) hG ha rfl) (by decide))]); have q2 : s5 (gP G a 35) = s0 (gP G a 35) := (by rw [hF_s5 (gP G a 35) (by rw [(zr (k := 35) (t2 := 92) hG ha rfl)]; decide), e_s1, zU_ne (zne ha (zr (k := 35) (t2 := 92) hG ha rfl) (by decide))]); have q3 : s5 (gP G a 37) = s0 (gP G a 37) := (by rw [hF_s5 (gP G a 37) (by rw [(zr (k := 37) (t2 := 94) hG ha rfl)]; decide), e_s1, zU_ne (zne ha (zr (k := 37) (t2 := 94) hG ha rfl) (by decide))]); rw [q1, q2, q3]; exact e2), (by have q1 : s5 (gP G a 17) = s0 (gP G a 17) := (by rw [hF_s5 (gP G a 17) (by rw [(zr (k := 17) (t2 := 80) hG ha rfl)]; decide), e_s1, zU_ne (zne ha (zr (k := 17) (t2 := 80) hG ha rfl) (by decide))]); rw [q1]; exact (zQn_nn e3 (by omega))), by omega, by omega, by omega⟩⟩
    · skip
      have g37 : s1 a 0 = 0 := (by rw [e_s1, zU_eq])
      refine j_callV hx hG (c_X12_may_t hst a 1 1 1) lk_RX12_240 ha (by decide) rfl rfl rfl rfl [.int (zI 1), .int (zI 1), .int (zI 1)] ⟨rfl, hG, hS_s1, ha, (by omega), (by omega), (by omega), (((by rw [e_s1, zU_eq]) : s1 a 0 = 0).trans (by omega))⟩ rfl rfl ⟨by decide, by decide⟩ ⟨by decide, by decide⟩ (k2 := 0) (n2 := 0) rfl rfl (Nat.le_of_ble_eq_true rfl) dX12_table_25 (kIP (fun v38 q39 => ?_))
      refine j_if_ne hx 33 dX12_table_28 rfl (by omega) (fun h40 => ?_) (fun h40 => absurd h40 (by omega))
      refine j_aload_n hx 0 dX12_table_33 rfl ?_
      refine j_iload_n hx 1 dX12_table_34 rfl ?_
      have g41 : s1 a 21 = s0 a 21 := (by rw [e_s1, zU_at (Or.inr (by decide))])
      have f42 := zf hS0 ha (k := 21) rfl
      have g43 : s1 a 22 = s0 a 22 := (by rw [e_s1, zU_at (Or.inr (by decide))])
      have f44 := zf hS0 ha (k := 22) rfl
      have g45 : s1 a 23 = s0 a 23 := (by rw [e_s1, zU_at (Or.inr (by decide))])
      have f46 := zf hS0 ha (k := 23) rfl
      have g47 : s1 a 24 = s0 a 24 := (by rw [e_s1, zU_at (Or.inr (by decide))])
      have f48 := zf hS0 ha (k := 24) rfl
      have g49 : s1 a 38 = s0 a 38 := (by rw [e_s1, zU_at (Or.inr (by decide))])
      have f50 := zf hS0 ha (k := 38) rfl
      have g51 : s1 a 51 = s0 a 51 := (by rw [e_s1, zU_at (Or.inr (by decide))])
      have f52 := zf hS0 ha (k := 51) rfl
      have g53 : s1 a 52 = s0 a 52 := (by rw [e_s1, zU_at (Or.inr (by decide))])
      have f54 := zf hS0 ha (k := 52) rfl
      refine j_callV hx hG (c_X12_begins hst a x1) lk_RX12_244 ha (by decide) rfl rfl rfl rfl [.int (zI x1)] ⟨rfl, hG, hS_s1, ha, (by omega)⟩ rfl rfl ⟨by decide, by decide⟩ ⟨by decide, by decide⟩ (k2 := 0) (n2 := 0) rfl rfl (Nat.le_of_ble_eq_true rfl) dX12_table_35 (kVM (fun s6 hS_s6 hF_s6 q56 => ?_))
      refine j_aload_n hx 0 dX12_table_38 rfl ?_
      have f57 := zf hS_s6 ha (k := 0) rfl
      have f58 := zf hS_s6 ha (k := 3) rfl
      have f59 := zf hS_s6 ha (k := 24) rfl
      have f60 := zf hS_s6 ha (k := 38) rfl
      have f61 := zf hS_s6 ha (k := 51) rfl
      have f62 := zf hS_s6 ha (k := 52) rfl
      refine j_callV hx hG (c_X12_clears hst a) lk_RX12_128 ha (by decide) rfl rfl rfl rfl [] ⟨rfl, hG, hS_s6, ha⟩ rfl rfl ⟨by decide, by decide⟩ ⟨by decide, by decide⟩ (k2 := 0) (n2 := 0) rfl rfl (Nat.le_of_ble_eq_true rfl) dX12_table_39 (kVM (fun s7 hS_s7 hF_s7 q64 => ?_))
      have hP65 : zQi (s7 a 5) (s7 (gP G a 10)) (s7 a 21) := (fun _ => zQn_0 (by omega))
      refine j_iconst hx dX12_table_42 ?_
      refine j_istore_n hx [(2, .int (zI 0)), (0, .ref a), (1, .int (zI x1))] dX12_table_43 (by decide) rfl ?_
      have f67 := zf hS_s7 ha (k := 0) rfl
      have f68 := zf hS_s7 ha (k := 3) rfl
      have f69 := zf hS_s7 ha (k := 7) rfl
      have f70 := zf hS_s7 ha (k := 24) rfl
      have f71 := zf hS_s7 ha (k := 38) rfl
      have f72 := zf hS_s7 ha (k := 51) rfl
      have f73 := zf hS_s7 ha (k := 52) rfl
      have f74 := zf hS_s7 ha (k := 4) rfl
      have c44_8 : ∀ (m_c44_8 : Nat) (v66 : Int) (s9 : zS), 3000 - 2 * s9 a 4 - s9 a 5 < m_c44_8 → ((-2147483648) ≤ v66 ∧ v66 ≤ 2147483647) → (zSK G s9) → (zFr [13, 73, 74, 75, 76, 77, 78, 79] G s7 s9) → (s9 a 0 = s7 a 0) → (s9 a 3 = s7 a 3) → (s9 a 7 = s7 a 7) → (s9 a 24 = s7 a 24) → (s9 a 38 = s7 a 38) → (s9 a 51 = s7 a 51) → (s9 a 52 = s7 a 52) → (zQi (s9 a 5) (s9 (gP G a 10)) (s9 a 21)) → (s9 (gP G a 13) 0 + s9 (gP G a 13) 1 + s9 (gP G a 13) 2 = s9 a 22) → (s7 a 4 ≤ s9 a 4) → (s9 a 4 ≤ s9 a 3 + 2) → (s9 a 4 ≤ 700) → (s9 a 5 ≤ 700) → JJ X E 4 G s9 0 0 [(0, .ref a), (2, .int (zI v66))] 44 [] := by
        intro m_c44_8
        induction m_c44_8 with
        | zero => intro v66 s9 hm_c44_8 fA10 hS_s9 hF_s9 fA13 fA14 fA15 fA16 fA17 fA18 fA19 fA20 fA21 fA22 fA23 fA24 fA25; exfalso; omega
        | succ m_c44_8 ih_c44_8 => 
          intro v66 s9 hm_c44_8 fA10 hS_s9 hF_s9 fA13 fA14 fA15 fA16 fA17 fA18 fA19 fA20 fA21 fA22 fA23 fA24 fA25
          refine j_aload_n hx 0 dX12_table_44 rfl ?_
          refine j_callV hx hG (c_X12_fine hst a) lk_RX12_166 ha (by decide) rfl rfl rfl rfl [] ⟨rfl, hG, hS_s9, ha⟩ rfl rfl ⟨by decide, by decide⟩ ⟨by decide, by decide⟩ (k2 := 0) (n2 := 0) rfl rfl (Nat.le_of_ble_eq_true rfl) dX12_table_45 (kIP (fun v75 q76 => ?_))
          have f77 := zf hS_s9 ha (k := 0) rfl
          have f78 := zf hS_s9 ha (k := 3) rfl
          have f79 := zf hS_s9 ha (k := 7) rfl
          have f80 := zf hS_s9 ha (k := 21) rfl
          have f81 := zf hS_s9 ha (k := 22) rfl
          have f82 := zf hS_s9 ha (k := 23) rfl
          have f83 := zf hS_s9 ha (k := 24) rfl
          have f84 := zf hS_s9 ha (k := 38) rfl
          have f85 := zf hS_s9 ha (k := 51) rfl
          have f86 := zf hS_s9 ha (k := 52) rfl
          have f87 := zf hS_s9 ha (k := 5) rfl
          have c163_26 : ∀ (s27 : zS), (zSK G s27) → (zFr [13] G s9 s27) → (s27 a 0 = s9 a 0) → (s27 a 3 = s9 a 3) → (s27 a 7 = s9 a 7) → (s27 a 21 = s9 a 21) → (s27 a 22 = s9 a 22) → (s27 a 23 = s9 a 23) → (s27 a 24 = s9 a 24) → (s27 a 38 = s9 a 38) → (s27 a 51 = s9 a 51) → (s27 a 52 = s9 a 52) → (s9 a 5 ≤ s27 a 5) → JJ X E 4 G s27 0 0 [(0, .ref a)] 163 [] := by
            intro s27 hS_s27 hF_s27 fA30 fA31 fA32 fA33 fA34 fA35 fA36 fA37 fA38 fA39 fA40
            refine j_aload_n hx 0 dX12_table_163 rfl ?_
            refine j_callV hx hG (c_X12_fine hst a) lk_RX12_166 ha (by decide) rfl rfl rfl rfl [] ⟨rfl, hG, hS_s27, ha⟩ rfl rfl ⟨by decide, by decide⟩ ⟨by decide, by decide⟩ (k2 := 0) (n2 := 0) rfl rfl (Nat.le_of_ble_eq_true rfl) dX12_table_164 (kIP (fun v88 q89 => ?_))
            have f90 := zf hS_s27 ha (k := 0) rfl
            have f91 := zf hS_s27 ha (k := 3) rfl
            have f92 := zf hS_s27 ha (k := 4) rfl
            have f93 := zf hS_s27 ha (k := 7) rfl
            have f94 := zf hS_s27 ha (k := 21) rfl
            have f95 := zf hS_s27 ha (k := 22) rfl
            have f96 := zf hS_s27 ha (k := 23) rfl
            have f97 := zf hS_s27 ha (k := 24) rfl
            have f98 := zf hS_s27 ha (k := 38) rfl
            have f99 := zf hS_s27 ha (k := 51) rfl
            have f100 := zf hS_s27 ha (k := 52) rfl
            have f101 := zf hS_s27 ha (k := 5) rfl
            have c187_41 : ∀ (s42 : zS), (zSK G s42) → (zFr [13] G s27 s42) → (s42 a 0 = s27 a 0) → (s42 a 3 = s27 a 3) → (s42 a 4 = s27 a 4) → (s42 a 7 = s27 a 7) → (s42 a 21 = s27 a 21) → (s42 a 22 = s27 a 22) → (s42 a 23 = s27 a 23) → (s42 a 24 = s27 a 24) → (s42 a 38 = s27 a 38) → (s42 a 51 = s27 a 51) → (s42 a 52 = s27 a 52) → (s27 a 5 ≤ s42 a 5) → JJ X E 4 G s42 0 0 [(0, .ref a)] 187 [] := by
              intro s42 hS_s42 hF_s42 fA45 fA46 fA47 fA48 fA49 fA50 fA51 fA52 fA53 fA54 fA55 fA56
              refine j_aload_n hx 0 dX12_table_187 rfl ?_
              refine j_aload_n hx 0 dX12_table_188 rfl ?_
              have f102 := zf hS_s42 ha (k := 21) rfl
              refine g13_21 hx hG ha kf_RX12_180 rfl dX12_table_189 ?_
              have f103 := zf hS_s42 ha (k := 0) rfl
              have f104 := zf hS_s42 ha (k := 3) rfl
              have f105 := zf hS_s42 ha (k := 4) rfl
              have f106 := zf hS_s42 ha (k := 5) rfl
              have f107 := zf hS_s42 ha (k := 7) rfl
              have f108 := zf hS_s42 ha (k := 22) rfl
              have f109 := zf hS_s42 ha (k := 23) rfl
              have f110 := zf hS_s42 ha (k := 24) rfl
              have f111 := zf hS_s42 ha (k := 38) rfl
              have f112 := zf hS_s42 ha (k := 51) rfl
              have f113 := zf hS_s42 ha (k := 52) rfl
              refine j_callV hx hG (c_X12_result hst a ((s42 a 21))) lk_RX12_265 ha (by decide) rfl rfl rfl rfl [.int (zI ((s42 a 21)))] ⟨rfl, hG, hS_s42, ha, (by omega)⟩ rfl rfl ⟨by decide, by decide⟩ ⟨by decide, by decide⟩ (k2 := 0) (n2 := 0) rfl rfl (Nat.le_of_ble_eq_true rfl) dX12_table_192 (kIM (fun v114 s57 hS_s57 hF_s57 q115 => ?_))
              refine j_istore_n hx [(3, .int (zI v114)), (0, .ref a)] dX12_table_195 (by decide) rfl ?_
              refine j_aload_n hx 1 dX12_table_196 rfl ?_
              have f116 := zf hS_s57 ha (k := 5) rfl
              refine g13_5 hx hG ha kf_RX12_137 rfl dX12_table_197 ?_
              refine j_iconst hx dX12_table_200 ?_
              refine j_icmp_ne hx 208 dX12_table_201 rfl (by omega) ⟨by decide, by decide⟩ (fun h117 => ?_) (fun h117 => ?_)
              · skip
                refine j_iload_n hx 0 dX12_table_208 rfl ?_
                have g118 : zc (s57 (gP G a 27)) = zc (s0 (gP G a 27)) := by rw [hF_s57 (gP G a 27) (by rw [(zr (k := 27) (t2 := 84) hG ha rfl)]; decide), hF_s42 (gP G a 27) (by rw [(zr (k := 27) (t2 := 84) hG ha rfl)]; decide), hF_s27 (gP G a 27) (by rw [(zr (k := 27) (t2 := 84) hG ha rfl)]; decide), hF_s9 (gP G a 27) (by rw [(zr (k := 27) (t2 := 84) hG ha rfl)]; decide), hF_s7 (gP G a 27) (by rw [(zr (k := 27) (t2 := 84) hG ha rfl)]; decide), hF_s6 (gP G a 27) (by rw [(zr (k := 27) (t2 := 84) hG ha rfl)]; decide), e_s1, zU_ne (zne ha (zr (k := 27) (t2 := 84) hG ha rfl) (by decide))]
                have g119 : zc (s57 (gP G a 28)) = zc (s0 (gP G a 28)) := by rw [hF_s57 (gP G a 28) (by rw [(zr (k := 28) (t2 := 85) hG ha rfl)]; decide), hF_s42 (gP G a 28) (by rw [(zr (k := 28) (t2 := 85) hG ha rfl)]; decide), hF_s27 (gP G a 28) (by rw [(zr (k := 28) (t2 := 85) hG ha rfl)]; decide), hF_s9 (gP G a 28) (by rw [(zr (k := 28) (t2 := 85) hG ha rfl)]; decide), hF_s7 (gP G a 28) (by rw [(zr (k := 28) (t2 := 85) hG ha rfl)]; decide), hF_s6 (gP G a 28) (by rw [(zr (k := 28) (t2 := 85) hG ha rfl)]; decide), e_s1, zU_ne (zne ha (zr (k := 28) (t2 := 85) hG ha rfl) (by decide))]
                have g120 : s57 (gP G a 27) 488 = s0 (gP G a 27) 488 := (by rw [(zFr_g hF_s57 (zr (k := 27) (t2 := 84) hG ha rfl) (by decide)), (zFr_g hF_s42 (zr (k := 27) (t2 := 84) hG ha rfl) (by decide)), (zFr_g hF_s27 (zr (k := 27) (t2 := 84) hG ha rfl) (by decide)), (zFr_g hF_s9 (zr (k := 27) (t2 := 84) hG ha rfl) (by decide)), (zFr_g hF_s7 (zr (k := 27) (t2 := 84) hG ha rfl) (by decide)), (zFr_g hF_s6 (zr (k := 27) (t2 := 84) hG ha rfl) (by decide)), e_s1, zU_at (Or.inl (zne ha (zr (k := 27) (t2 := 84) hG ha rfl) (by decide)))])
                have g121 : s57 (gP G a 28) 488 = s0 (gP G a 28) 488 := (by rw [(zFr_g hF_s57 (zr (k := 28) (t2 := 85) hG ha rfl) (by decide)), (zFr_g hF_s42 (zr (k := 28) (t2 := 85) hG ha rfl) (by decide)), (zFr_g hF_s27 (zr (k := 28) (t2 := 85) hG ha rfl) (by decide)), (zFr_g hF_s9 (zr (k := 28) (t2 := 85) hG ha rfl) (by decide)), (zFr_g hF_s7 (zr (k := 28) (t2 := 85) hG ha rfl) (by decide)), (zFr_g hF_s6 (zr (k := 28) (t2 := 85) hG ha rfl) (by decide)), e_s1, zU_at (Or.inl (zne ha (zr (k := 28) (t2 := 85) hG ha rfl) (by decide)))])
                have f122 := zf hS_s57 ha (k := 24) rfl
                have f123 := zf hS_s57 ha (k := 38) rfl
                have f124 := zf hS_s57 ha (k := 51) rfl
                have f125 := zf hS_s57 ha (k := 52) rfl
                exact j_iret hx hq rfl (by decide) (by decide) dX12_table_209 ⟨v114, rfl, rfl, hS_s57, (zFr_t (zFr_t (zFr_t (zFr_t (zFr_t (zFr_t (zFr_u zFr_rf e_s1 ha (by decide)) hF_s6 (by decide)) hF_s7 (by decide)) hF_s9 (by decide)) hF_s27 (by decide)) hF_s42 (by decide)) hF_s57 (by decide)), ⟨(by omega), by omega, by omega, by omega, by omega, (by have q1 : s57 (gP G a 34) = s0 (gP G a 34) := (by rw [hF_s57 (gP G a 34) (by rw [(zr (k := 34) (t2 := 91) hG ha rfl)]; decide), hF_s42 (gP G a 34) (by rw [(zr (k := 34) (t2 := 91) hG ha rfl)]; decide), hF_s27 (gP G a 34) (by rw [(zr (k := 34) (t2 := 91) hG ha rfl)]; decide), hF_s9 (gP G a 34) (by rw [(zr (k := 34) (t2 := 91) hG ha rfl)]; decide), hF_s7 (gP G a 34) (by rw [(zr (k := 34) (t2 := 91) hG ha rfl)]; decide), hF_s6 (gP G a 34) (by rw [(zr (k := 34) (t2 := 91) hG ha rfl)]; decide), e_s1, zU_ne (zne ha (zr (k := 34) (t2 := 91) hG ha rfl) (by decide))]); have q2 : s57 (gP G a 35) = s0 (gP G a 35) := (by rw [hF_s57 (gP G a 35) (by rw [(zr (k := 35) (t2 := 92) hG ha rfl)]; decide), hF_s42 (gP G a 35) (by rw [(zr (k := 35) (t2 := 92) hG ha rfl)]; decide), hF_s27 (gP G a 35) (by rw [(zr (k := 35) (t2 := 92) hG ha rfl)]; decide), hF_s9 (gP G a 35) (by rw [(zr (k := 35) (t2 := 92) hG ha rfl)]; decide), hF_s7 (gP G a 35) (by rw [(zr (k := 35) (t2 := 92) hG ha rfl)]; decide), hF_s6 (gP G a 35) (by rw [(zr (k := 35) (t2 := 92) hG ha rfl)]; decide), e_s1, zU_ne (zne ha (zr (k := 35) (t2 := 92) hG ha rfl) (by decide))]); have q3 : s57 (gP G a 37) = s0 (gP G a 37) := (by rw [hF_s57 (gP G a 37) (by rw [(zr (k := 37) (t2 := 94) hG ha rfl)]; decide), hF_s42 (gP G a 37) (by rw [(zr (k := 37) (t2 := 94) hG ha rfl)]; decide), hF_s27 (gP G a 37) (by rw [(zr (k := 37) (t2 := 94) hG ha rfl)]; decide), hF_s9 (gP G a 37) (by rw [(zr (k := 37) (t2 := 94) hG ha rfl)]; decide), hF_s7 (gP G a 37) (by rw [(zr (k := 37) (t2 := 94) hG ha rfl)]; decide), hF_s6 (gP G a 37) (by rw [(zr (k := 37) (t2 := 94) hG ha rfl)]; decide), e_s1, zU_ne (zne ha (zr (k := 37) (t2 := 94) hG ha rfl) (by decide))]); rw [q1, q2, q3]; exact e2), (by have q1 : s57 (gP G a 17) = s0 (gP G a 17) := (by rw [hF_s57 (gP G a 17) (by rw [(zr (k := 17) (t2 := 80) hG ha rfl)]; decide), hF_s42 (gP G a 17) (by rw [(zr (k := 17) (t2 := 80) hG ha rfl)]; decide), hF_s27 (gP G a 17) (by rw [(zr (k := 17) (t2 := 80) hG ha rfl)]; decide), hF_s9 (gP G a 17) (by rw [(zr (k := 17) (t2 := 80) hG ha rfl)]; decide), hF_s7 (gP G a 17) (by rw [(zr (k := 17) (t2 := 80) hG ha rfl)]; decide), hF_s6 (gP G a 17) (by rw [(zr (k := 17) (t2 := 80) hG ha rfl)]; decide), e_s1, zU_ne (zne ha (zr (k := 17) (t2 := 80) hG ha rfl) (by decide))]); rw [q1]; exact (zQn_nn e3 (by omega))), by omega, by omega, by omega⟩⟩
              · skip
                refine j_aload_n hx 1 dX12_table_204 rfl ?_
                have f126 := zf hS_s57 ha (k := 21) rfl
                have hP127 : zQn (s57 (gP G a 10)) (s57 a 21) := ((show zQi (s57 a 5) (s57 (gP G a 10)) (s57 a 21) from (by have q1 : s57 (gP G a 10) = s9 (gP G a 10) := (by rw [hF_s57 (gP G a 10) (by rw [(zr (k := 10) (t2 := 73) hG ha rfl)]; decide), hF_s42 (gP G a 10) (by rw [(zr (k := 10) (t2 := 73) hG ha rfl)]; decide), hF_s27 (gP G a 10) (by rw [(zr (k := 10) (t2 := 73) hG ha rfl)]; decide)]); rw [q1]; exact (zQi_k fA20 (by omega) (by omega)))) (by omega))
                have g128 : s57 (gP G a 13) 0 = s9 (gP G a 13) 0 := (by rw [(zFr_g hF_s57 (zr (k := 13) (t2 := 76) hG ha rfl) (by decide)), (zFr_g hF_s42 (zr (k := 13) (t2 := 76) hG ha rfl) (by decide)), (zFr_g hF_s27 (zr (k := 13) (t2 := 76) hG ha rfl) (by decide))])
                have g129 : s57 (gP G a 13) 1 = s9 (gP G a 13) 1 := (by rw [(zFr_g hF_s57 (zr (k := 13) (t2 := 76) hG ha rfl) (by decide)), (zFr_g hF_s42 (zr (k := 13) (t2 := 76) hG ha rfl) (by decide)), (zFr_g hF_s27 (zr (k := 13) (t2 := 76) hG ha rfl) (by decide))])
                have g130 : s57 (gP G a 13) 2 = s9 (gP G a 13) 2 := (by rw [(zFr_g hF_s57 (zr (k := 13) (t2 := 76) hG ha rfl) (by decide)), (zFr_g hF_s42 (zr (k := 13) (t2 := 76) hG ha rfl) (by decide)), (zFr_g hF_s27 (zr (k := 13) (t2 := 76) hG ha rfl) (by decide))])
                have f131 := zf hS_s57 ha (k := 0) rfl
                have f132 := zf hS_s57 ha (k := 3) rfl
                have f133 := zf hS_s57 ha (k := 4) rfl
                have f134 := zf hS_s57 ha (k := 7) rfl
                have f135 := zf hS_s57 ha (k := 22) rfl
                have f136 := zf hS_s57 ha (k := 23) rfl
                have f137 := zf hS_s57 ha (k := 38) rfl
                have f138 := zf hS_s57 ha (k := 51) rfl
                have f139 := zf hS_s57 ha (k := 52) rfl
                refine j_callV hx hG (c_X12_sets hst a) lk_RX12_131 ha (by decide) rfl rfl rfl rfl [] ⟨rfl, hG, hS_s57, ha, (by omega), ((zQn_nn hP127 (by omega)))⟩ rfl rfl ⟨by decide, by decide⟩ ⟨by decide, by decide⟩ (k2 := 0) (n2 := 0) rfl rfl (Nat.le_of_ble_eq_true rfl) dX12_table_205 (kVM (fun s58 hS_s58 hF_s58 q141 => ?_))
                refine j_iload_n hx 0 dX12_table_208 rfl ?_
                have f142 := zf hS_s58 ha (k := 24) rfl
                have f143 := zf hS_s58 ha (k := 38) rfl
                have f144 := zf hS_s58 ha (k := 51) rfl
                have f145 := zf hS_s58 ha (k := 52) rfl
                exact j_iret hx hq rfl (by decide) (by decide) dX12_table_209 ⟨v114, rfl, rfl, hS_s58, (zFr_t (zFr_t (zFr_t (zFr_t (zFr_t (zFr_t (zFr_t (zFr_u zFr_rf e_s1 ha (by decide)) hF_s6 (by decide)) hF_s7 (by decide)) hF_s9 (by decide)) hF_s27 (by decide)) hF_s42 (by decide)) hF_s57 (by decide)) hF_s58 (by decide)), ⟨(by omega), by omega, by omega, by omega, by omega, q141.2.2.2.2.2.1, (zQn_nn q141.2.2.2.2.1 (by omega)), by omega, by omega, by omega⟩⟩
            refine j_if_eq hx 187 dX12_table_167 rfl (by omega) (fun h146 => ?_) (fun h146 => ?_)
            · skip
              exact j_sub [0] [(0, .ref a)] rfl (c187_41 s27 hS_s27 zFr_rf (by omega) (by omega) (by omega) (by omega) (by omega) (by omega) (by omega) (by omega) (by omega) (by omega) (by omega) (by omega))
            · skip
              refine j_aload_n hx 0 dX12_table_170 rfl ?_
              refine g13_21 hx hG ha kf_RX12_180 rfl dX12_table_171 ?_
              refine j_iconst hx dX12_table_174 ?_
              refine j_icmp_ge hx 187 dX12_table_175 rfl (by omega) ⟨by decide, by decide⟩ (fun h147 => ?_) (fun h147 => ?_)
              · skip
                exact j_sub [0] [(0, .ref a)] rfl (c187_41 s27 hS_s27 zFr_rf (by omega) (by omega) (by omega) (by omega) (by omega) (by omega) (by omega) (by omega) (by omega) (by omega) (by omega) (by omega))
              · skip
                refine j_aload_n hx 0 dX12_table_178 rfl ?_
                refine j_iconst hx dX12_table_179 ?_
                refine j_aload_n hx 0 dX12_table_180 rfl ?_
                refine g13_3 hx hG ha kf_RX12_146 rfl dX12_table_181 ?_
                refine j_callV hx hG (c_X12_wrong hst a 4 ((s27 a 3))) lk_RX12_173 ha (by decide) rfl rfl rfl rfl [.int (zI 4), .int (zI ((s27 a 3)))] ⟨rfl, hG, hS_s27, ha, (by omega), (by omega)⟩ rfl rfl ⟨by decide, by decide⟩ ⟨by decide, by decide⟩ (k2 := 0) (n2 := 0) rfl rfl (Nat.le_of_ble_eq_true rfl) dX12_table_184 (kVM (fun s59 hS_s59 hF_s59 q149 => ?_))
                have f150 := zf hS_s59 ha (k := 0) rfl
                have f151 := zf hS_s59 ha (k := 3) rfl
                have f152 := zf hS_s59 ha (k := 4) rfl
                have f153 := zf hS_s59 ha (k := 7) rfl
                have f154 := zf hS_s59 ha (k := 21) rfl
                have f155 := zf hS_s59 ha (k := 22) rfl
                have f156 := zf hS_s59 ha (k := 23) rfl
                have f157 := zf hS_s59 ha (k := 24) rfl
                have f158 := zf hS_s59 ha (k := 38) rfl
                have f159 := zf hS_s59 ha (k := 51) rfl
                have f160 := zf hS_s59 ha (k := 52) rfl
                have f161 := zf hS_s59 ha (k := 5) rfl
                exact j_sub [0] [(0, .ref a)] rfl (c187_41 s59 hS_s59 (zFr_t zFr_rf hF_s59 (by decide)) (by omega) (by omega) (by omega) (by omega) (by omega) (by omega) (by omega) (by omega) (by omega) (by omega) (by omega) (by omega))
          refine j_if_eq hx 163 dX12_table_48 rfl (by omega) (fun h162 => ?_) (fun h162 => ?_)
          · skip
            exact j_sub [0] [(0, .ref a)] rfl (c163_26 s9 hS_s9 zFr_rf (by omega) (by omega) (by omega) (by omega) (by omega) (by omega) (by omega) (by omega) (by omega) (by omega) (by omega))
          · skip
            refine j_aload_n hx 0 dX12_table_51 rfl ?_
            have f163 := zf hS_s9 ha (k := 4) rfl
            refine j_callV hx hG (c_X12_isMore hst a) lk_RX12_247 ha (by decide) rfl rfl rfl rfl [] ⟨rfl, hG, hS_s9, ha, (by omega)⟩ rfl rfl ⟨by decide, by decide⟩ ⟨by decide, by decide⟩ (k2 := 0) (n2 := 0) rfl rfl (Nat.le_of_ble_eq_true rfl) dX12_table_52 (kIM (fun v164 s60 hS_s60 hF_s60 q165 => ?_))
            refine j_if_eq hx 163 dX12_table_55 rfl (by omega) (fun h166 => ?_) (fun h166 => ?_)
            · skip
              have f167 := zf hS_s60 ha (k := 0) rfl
              have f168 := zf hS_s60 ha (k := 3) rfl
              have f169 := zf hS_s60 ha (k := 7) rfl
              have f170 := zf hS_s60 ha (k := 21) rfl
              have f171 := zf hS_s60 ha (k := 22) rfl
              have f172 := zf hS_s60 ha (k := 23) rfl
              have f173 := zf hS_s60 ha (k := 24) rfl
              have f174 := zf hS_s60 ha (k := 38) rfl
              have f175 := zf hS_s60 ha (k := 51) rfl
              have f176 := zf hS_s60 ha (k := 52) rfl
              have f177 := zf hS_s60 ha (k := 5) rfl
              exact j_sub [0] [(0, .ref a)] rfl (c163_26 s60 hS_s60 (zFr_t zFr_rf hF_s60 (by decide)) (by omega) (by omega) (by omega) (by omega) (by omega) (by omega) (by omega) (by omega) (by omega) (by omega) (by omega))
            · skip
              refine j_aload_n hx 0 dX12_table_58 rfl ?_
              have f178 := zf hS_s60 ha (k := 4) rfl
              have f179 := zf hS_s60 ha (k := 3) rfl
              have f180 := zf hS_s60 ha (k := 0) rfl
              have f181 := zf hS_s60 ha (k := 5) rfl
              have f182 := zf hS_s60 ha (k := 7) rfl
              have f183 := zf hS_s60 ha (k := 21) rfl
              have f184 := zf hS_s60 ha (k := 22) rfl
              have f185 := zf hS_s60 ha (k := 23) rfl
              have f186 := zf hS_s60 ha (k := 24) rfl
              have f187 := zf hS_s60 ha (k := 38) rfl
              have f188 := zf hS_s60 ha (k := 51) rfl
              have f189 := zf hS_s60 ha (k := 52) rfl
              refine j_callV hx hG (c_X12_word hst a) lk_RX12_250 ha (by decide) rfl rfl rfl rfl [] ⟨rfl, hG, hS_s60, ha, (by omega)⟩ rfl rfl ⟨by decide, by decide⟩ ⟨by decide, by decide⟩ (k2 := 0) (n2 := 0) rfl rfl (Nat.le_of_ble_eq_true rfl) dX12_table_59 (kIM (fun v190 s61 hS_s61 hF_s61 q191 => ?_))
              refine j_istore_n hx [(3, .int (zI v190)), (0, .ref a), (2, .int (zI v66))] dX12_table_62 (by decide) rfl ?_
              refine j_iload_n hx 0 dX12_table_63 rfl ?_
              refine j_callS hx (c_X12_isClause hst v190) lk_RX12_253 [.int (zI v190)] ⟨rfl, hG, hS_s61, (by omega)⟩ rfl rfl ⟨by decide, by decide⟩ ⟨by decide, by decide⟩ (k2 := 0) (n2 := 0) rfl rfl (Nat.le_of_ble_eq_true rfl) dX12_table_64 (kIP (fun v192 q193 => ?_))
              have f194 := zf hS_s61 ha (k := 0) rfl
              have f195 := zf hS_s61 ha (k := 3) rfl
              have f196 := zf hS_s61 ha (k := 4) rfl
              have f197 := zf hS_s61 ha (k := 7) rfl
              have f198 := zf hS_s61 ha (k := 21) rfl
              have f199 := zf hS_s61 ha (k := 22) rfl
              have f200 := zf hS_s61 ha (k := 23) rfl
              have f201 := zf hS_s61 ha (k := 24) rfl
              have f202 := zf hS_s61 ha (k := 38) rfl
              have f203 := zf hS_s61 ha (k := 51) rfl
              have f204 := zf hS_s61 ha (k := 52) rfl
              have f205 := zf hS_s61 ha (k := 5) rfl
              have c132_62 : ∀ (s63 : zS), (zSK G s63) → (zFr [13] G s61 s63) → (s63 a 0 = s61 a 0) → (s63 a 3 = s61 a 3) → (s63 a 4 = s61 a 4) → (s63 a 7 = s61 a 7) → (s63 a 21 = s61 a 21) → (s63 a 22 = s61 a 22) → (s63 a 23 = s61 a 23) → (s63 a 24 = s61 a 24) → (s63 a 38 = s61 a 38) → (s63 a 51 = s61 a 51) → (s63 a 52 = s61 a 52) → (zQi (s63 a 5) (s63 (gP G a 10)) (s63 a 21)) → (s63 a 5 = -1 → (v190 = tOf 0 → s63 a 21 ≠ 3) ∧ (v190 = tOf 1 → s63 a 23 ≠ 12)) → (s63 (gP G a 13) 0 + s63 (gP G a 13) 1 + s63 (gP G a 13) 2 = s63 a 22) → (s61 a 4 ≤ s63 a 4) → (s61 a 5 ≤ s63 a 5) → (s63 a 4 ≤ s63 a 3 + 2) → JJ X E 4 G s63 0 0 [(0, .ref a), (2, .int (zI v66)), (3, .int (zI v190))] 132 [] := by
                intro s63 hS_s63 hF_s63 fA66 fA67 fA68 fA69 fA70 fA71 fA72 fA73 fA74 fA75 fA76 fA77 fA78 fA79 fA80 fA81 fA82
                refine j_aload_n hx 0 dX12_table_132 rfl ?_
                refine j_callV hx hG (c_X12_fine hst a) lk_RX12_166 ha (by decide) rfl rfl rfl rfl [] ⟨rfl, hG, hS_s63, ha⟩ rfl rfl ⟨by decide, by decide⟩ ⟨by decide, by decide⟩ (k2 := 0) (n2 := 0) rfl rfl (Nat.le_of_ble_eq_true rfl) dX12_table_133 (kIP (fun v206 q207 => ?_))
                refine j_if_ne hx 142 dX12_table_136 rfl (by omega) (fun h208 => ?_) (fun h208 => ?_)
                · skip
                  refine j_aload_n hx 0 dX12_table_142 rfl ?_
                  have f209 := zf hS_s63 ha (k := 4) rfl
                  have f210 := zf hS_s63 ha (k := 3) rfl
                  have g211 : s63 (gP G a 9) (s63 a 4).toNat = s0 (gP G a 9) (s63 a 4).toNat := (by rw [(zFr_g hF_s63 (zr (k := 9) (t2 := 72) hG ha rfl) (by decide)), (zFr_g hF_s61 (zr (k := 9) (t2 := 72) hG ha rfl) (by decide)), (zFr_g hF_s60 (zr (k := 9) (t2 := 72) hG ha rfl) (by decide)), (zFr_g hF_s9 (zr (k := 9) (t2 := 72) hG ha rfl) (by decide)), (zFr_g hF_s7 (zr (k := 9) (t2 := 72) hG ha rfl) (by decide)), (zFr_g hF_s6 (zr (k := 9) (t2 := 72) hG ha rfl) (by decide)), e_s1, zU_at (Or.inl (zne ha (zr (k := 9) (t2 := 72) hG ha rfl) (by decide)))])
                  have f212 := zf hS_s63 ha (k := 0) rfl
                  have f213 := zf hS_s63 ha (k := 5) rfl
                  have f214 := zf hS_s63 ha (k := 7) rfl
                  have f215 := zf hS_s63 ha (k := 21) rfl
                  have f216 := zf hS_s63 ha (k := 22) rfl
                  have f217 := zf hS_s63 ha (k := 23) rfl
                  have f218 := zf hS_s63 ha (k := 24) rfl
                  have f219 := zf hS_s63 ha (k := 38) rfl
                  have f220 := zf hS_s63 ha (k := 51) rfl
                  have f221 := zf hS_s63 ha (k := 52) rfl
                  refine j_callV hx hG (c_X12_pass hst a) lk_RX12_256 ha (by decide) rfl rfl rfl rfl [] ⟨rfl, hG, hS_s63, ha, (by omega)⟩ rfl rfl ⟨by decide, by decide⟩ ⟨by decide, by decide⟩ (k2 := 0) (n2 := 0) rfl rfl (Nat.le_of_ble_eq_true rfl) dX12_table_143 (kVM (fun s83 hS_s83 hF_s83 q223 => ?_))
                  refine j_aload_n hx 0 dX12_table_146 rfl ?_
                  refine j_iload_n hx 2 dX12_table_147 rfl ?_
                  have f224 := zf hS_s83 ha (k := 5) rfl
                  have f225 := zf hS_s83 ha (k := 21) rfl
                  have g226 : s83 (gP G a 13) 0 = s9 (gP G a 13) 0 := (by rw [(zFr_g hF_s83 (zr (k := 13) (t2 := 76) hG ha rfl) (by decide)), (zFr_g hF_s63 (zr (k := 13) (t2 := 76) hG ha rfl) (by decide)), (zFr_g hF_s61 (zr (k := 13) (t2 := 76) hG ha rfl) (by decide)), (zFr_g hF_s60 (zr (k := 13) (t2 := 76) hG ha rfl) (by decide))])
                  have g227 : s83 (gP G a 13) 1 = s9 (gP G a 13) 1 := (by rw [(zFr_g hF_s83 (zr (k := 13) (t2 := 76) hG ha rfl) (by decide)), (zFr_g hF_s63 (zr (k := 13) (t2 := 76) hG ha rfl) (by decide)), (zFr_g hF_s61 (zr (k := 13) (t2 := 76) hG ha rfl) (by decide)), (zFr_g hF_s60 (zr (k := 13) (t2 := 76) hG ha rfl) (by decide))])
                  have g228 : s83 (gP G a 13) 2 = s9 (gP G a 13) 2 := (by rw [(zFr_g hF_s83 (zr (k := 13) (t2 := 76) hG ha rfl) (by decide)), (zFr_g hF_s63 (zr (k := 13) (t2 := 76) hG ha rfl) (by decide)), (zFr_g hF_s61 (zr (k := 13) (t2 := 76) hG ha rfl) (by decide)), (zFr_g hF_s60 (zr (k := 13) (t2 := 76) hG ha rfl) (by decide))])
                  have f229 := zf hS_s83 ha (k := 22) rfl
                  have f230 := zf hS_s83 ha (k := 23) rfl
                  have f231 := zf hS_s83 ha (k := 4) rfl
                  have f232 := zf hS_s83 ha (k := 3) rfl
                  have f233 := zf hS_s83 ha (k := 0) rfl
                  have f234 := zf hS_s83 ha (k := 7) rfl
                  have f235 := zf hS_s83 ha (k := 24) rfl
                  have f236 := zf hS_s83 ha (k := 38) rfl
                  have f237 := zf hS_s83 ha (k := 51) rfl
                  have f238 := zf hS_s83 ha (k := 52) rfl
                  refine j_callV hx hG (c_X12_readClause hst a v190) lk_RX12_259 ha (by decide) rfl rfl rfl rfl [.int (zI v190)] ⟨rfl, hG, hS_s83, ha, (by omega), ((by have q1 : s83 (gP G a 10) = s63 (gP G a 10) := (by rw [hF_s83 (gP G a 10) (by rw [(zr (k := 10) (t2 := 73) hG ha rfl)]; decide)]); rw [q1]; exact (zQi_k fA77 (by omega) (by omega)))), (by omega), (by omega), (by omega), (by omega)⟩ rfl rfl ⟨by decide, by decide⟩ ⟨by decide, by decide⟩ (k2 := 0) (n2 := 0) rfl rfl (Nat.le_of_ble_eq_true rfl) dX12_table_148 (kVM (fun s84 hS_s84 hF_s84 q240 => ?_))
                  refine j_aload_n hx 0 dX12_table_151 rfl ?_
                  refine j_bipush hx dX12_table_152 rfl ?_
                  have f241 := zf hS_s84 ha (k := 4) rfl
                  have f242 := zf hS_s84 ha (k := 3) rfl
                  have f243 := zf hS_s84 ha (k := 5) rfl
                  have f244 := zf hS_s84 ha (k := 0) rfl
                  have f245 := zf hS_s84 ha (k := 7) rfl
                  have f246 := zf hS_s84 ha (k := 21) rfl
                  have f247 := zf hS_s84 ha (k := 22) rfl
                  have f248 := zf hS_s84 ha (k := 23) rfl
                  have f249 := zf hS_s84 ha (k := 24) rfl
                  have f250 := zf hS_s84 ha (k := 38) rfl
                  have f251 := zf hS_s84 ha (k := 51) rfl
                  have f252 := zf hS_s84 ha (k := 52) rfl
                  refine j_callV hx hG (c_X12_sign hst a 59) lk_RX12_262 ha (by decide) rfl rfl rfl rfl [.int (zI 59)] ⟨rfl, hG, hS_s84, ha, (by omega), (by omega)⟩ rfl rfl ⟨by decide, by decide⟩ ⟨by decide, by decide⟩ (k2 := 0) (n2 := 0) rfl rfl (Nat.le_of_ble_eq_true rfl) dX12_table_154 (kVM (fun s85 hS_s85 hF_s85 q254 => ?_))
                  refine j_iincN hx 1 (fun v255 => [(2, .int (zI v255)), (0, .ref a), (3, .int (zI v190))]) dX12_table_157 rfl (by decide) (fun _ => rfl) (fun v255 f256 f257 f258 => ?_)
                  refine j_goto hx 44 dX12_table_160 rfl ?_
                  have f259 := zf hS_s85 ha (k := 4) rfl
                  have f260 := zf hS_s85 ha (k := 5) rfl
                  have f261 := zf hS_s85 ha (k := 0) rfl
                  have f262 := zf hS_s85 ha (k := 3) rfl
                  have f263 := zf hS_s85 ha (k := 7) rfl
                  have f264 := zf hS_s85 ha (k := 24) rfl
                  have f265 := zf hS_s85 ha (k := 38) rfl
                  have f266 := zf hS_s85 ha (k := 51) rfl
                  have f267 := zf hS_s85 ha (k := 52) rfl
                  have f268 := zf hS_s85 ha (k := 21) rfl
                  have g269 : s85 (gP G a 13) 0 = s84 (gP G a 13) 0 := (by rw [(zFr_g hF_s85 (zr (k := 13) (t2 := 76) hG ha rfl) (by decide))])
                  have g270 : s85 (gP G a 13) 1 = s84 (gP G a 13) 1 := (by rw [(zFr_g hF_s85 (zr (k := 13) (t2 := 76) hG ha rfl) (by decide))])
                  have g271 : s85 (gP G a 13) 2 = s84 (gP G a 13) 2 := (by rw [(zFr_g hF_s85 (zr (k := 13) (t2 := 76) hG ha rfl) (by decide))])
                  have f272 := zf hS_s85 ha (k := 22) rfl
                  exact j_sub [1, 0] [(0, .ref a), (2, .int (zI v255))] rfl (ih_c44_8 v255 s85 (by omega) (by omega) hS_s85 (zFr_t (zFr_t (zFr_t (zFr_t (zFr_t (zFr_t (zFr_t zFr_rf hF_s9 (by decide)) hF_s60 (by decide)) hF_s61 (by decide)) hF_s63 (by decide)) hF_s83 (by decide)) hF_s84 (by decide)) hF_s85 (by decide)) (by omega) (by omega) (by omega) (by omega) (by omega) (by omega) (by omega) (by have q1 : s85 (gP G a 10) = s84 (gP G a 10) := (by rw [hF_s85 (gP G a 10) (by rw [(zr (k := 10) (t2 := 73) hG ha rfl)]; decide)]); rw [q1]; exact (zQi_k q240.2.2.1 (by omega) (by omega))) (by omega) (by omega) (by omega) (by omega) (by omega))
                · skip
                  refine j_goto hx 163 dX12_table_139 rfl ?_
                  have f273 := zf hS_s63 ha (k := 0) rfl
                  have f274 := zf hS_s63 ha (k := 3) rfl
                  have f275 := zf hS_s63 ha (k := 7) rfl
                  have f276 := zf hS_s63 ha (k := 21) rfl
                  have f277 := zf hS_s63 ha (k := 22) rfl
                  have f278 := zf hS_s63 ha (k := 23) rfl
                  have f279 := zf hS_s63 ha (k := 24) rfl
                  have f280 := zf hS_s63 ha (k := 38) rfl
                  have f281 := zf hS_s63 ha (k := 51) rfl
                  have f282 := zf hS_s63 ha (k := 52) rfl
                  have f283 := zf hS_s63 ha (k := 5) rfl
                  exact j_sub [0] [(0, .ref a)] rfl (c163_26 s63 hS_s63 (zFr_t (zFr_t (zFr_t zFr_rf hF_s60 (by decide)) hF_s61 (by decide)) hF_s63 (by decide)) (by omega) (by omega) (by omega) (by omega) (by omega) (by omega) (by omega) (by omega) (by omega) (by omega) (by omega))
              refine j_if_ne hx 82 dX12_table_67 rfl (by omega) (fun h284 => ?_) (fun h284 => ?_)
              · skip
                refine j_iload_n hx 2 dX12_table_82 rfl ?_
                refine j_bipush hx dX12_table_83 rfl ?_
                have c123_86 : JJ X E 4 G s61 0 0 [(0, .ref a), (2, .int (zI v66)), (3, .int (zI v190))] 123 [] := by
                  refine j_aload_n hx 0 dX12_table_123 rfl ?_
                  refine j_iconst hx dX12_table_124 ?_
                  refine j_aload_n hx 0 dX12_table_125 rfl ?_
                  refine g13_4 hx hG ha kf_RX12_143 rfl dX12_table_126 ?_
                  refine j_callV hx hG (c_X12_wrong hst a 3 ((s61 a 4))) lk_RX12_173 ha (by decide) rfl rfl rfl rfl [.int (zI 3), .int (zI ((s61 a 4)))] ⟨rfl, hG, hS_s61, ha, (by omega), (by omega)⟩ rfl rfl ⟨by decide, by decide⟩ ⟨by decide, by decide⟩ (k2 := 0) (n2 := 0) rfl rfl (Nat.le_of_ble_eq_true rfl) dX12_table_129 (kVM (fun s87 hS_s87 hF_s87 q286 => ?_))
                  have f287 := zf hS_s87 ha (k := 0) rfl
                  have f288 := zf hS_s87 ha (k := 3) rfl
                  have f289 := zf hS_s87 ha (k := 4) rfl
                  have f290 := zf hS_s87 ha (k := 7) rfl
                  have f291 := zf hS_s87 ha (k := 21) rfl
                  have f292 := zf hS_s87 ha (k := 22) rfl
                  have f293 := zf hS_s87 ha (k := 23) rfl
                  have f294 := zf hS_s87 ha (k := 24) rfl
                  have f295 := zf hS_s87 ha (k := 38) rfl
                  have f296 := zf hS_s87 ha (k := 51) rfl
                  have f297 := zf hS_s87 ha (k := 52) rfl
                  have f298 := zf hS_s87 ha (k := 5) rfl
                  have g299 : s87 (gP G a 13) 0 = s9 (gP G a 13) 0 := (by rw [(zFr_g hF_s87 (zr (k := 13) (t2 := 76) hG ha rfl) (by decide)), (zFr_g hF_s61 (zr (k := 13) (t2 := 76) hG ha rfl) (by decide)), (zFr_g hF_s60 (zr (k := 13) (t2 := 76) hG ha rfl) (by decide))])
                  have g300 : s87 (gP G a 13) 1 = s9 (gP G a 13) 1 := (by rw [(zFr_g hF_s87 (zr (k := 13) (t2 := 76) hG ha rfl) (by decide)), (zFr_g hF_s61 (zr (k := 13) (t2 := 76) hG ha rfl) (by decide)), (zFr_g hF_s60 (zr (k := 13) (t2 := 76) hG ha rfl) (by decide))])
                  have g301 : s87 (gP G a 13) 2 = s9 (gP G a 13) 2 := (by rw [(zFr_g hF_s87 (zr (k := 13) (t2 := 76) hG ha rfl) (by decide)), (zFr_g hF_s61 (zr (k := 13) (t2 := 76) hG ha rfl) (by decide)), (zFr_g hF_s60 (zr (k := 13) (t2 := 76) hG ha rfl) (by decide))])
                  exact j_sub [0, 1, 2] [(0, .ref a), (2, .int (zI v66)), (3, .int (zI v190))] rfl (c132_62 s87 hS_s87 (zFr_t zFr_rf hF_s87 (by decide)) (by omega) (by omega) (by omega) (by omega) (by omega) (by omega) (by omega) (by omega) (by omega) (by omega) (by omega) (by have q1 : s87 (gP G a 10) = s9 (gP G a 10) := (by rw [hF_s87 (gP G a 10) (by rw [(zr (k := 10) (t2 := 73) hG ha rfl)]; decide), hF_s61 (gP G a 10) (by rw [(zr (k := 10) (t2 := 73) hG ha rfl)]; decide), hF_s60 (gP G a 10) (by rw [(zr (k := 10) (t2 := 73) hG ha rfl)]; decide)]); rw [q1]; exact (zQi_k fA20 (by omega) (by omega))) (by omega) (by omega) (by omega) (by omega) (by omega))
                refine j_icmp_eq hx 123 dX12_table_85 rfl (by omega) ⟨by decide, by decide⟩ (fun h302 => ?_) (fun h302 => ?_)
                · skip
                  exact j_sub [1, 2, 0] [(0, .ref a), (2, .int (zI v66)), (3, .int (zI v190))] rfl (c123_86  )
                · skip
                  refine j_iload_n hx 0 dX12_table_88 rfl ?_
                  refine j_ldcT hx (i := 0) 20 (by decide) rfl rfl rfl dX12_table_89 ?_
                  refine j_callS hx (c_X12_of hst 0) lk_RX12_215 [.ref (zTa E 0)] ⟨rfl, hG, hS_s61, (by decide)⟩ rfl rfl ⟨by decide, by decide⟩ ⟨by decide, by decide⟩ (k2 := 0) (n2 := 0) rfl rfl (Nat.le_of_ble_eq_true rfl) dX12_table_91 (kIP (fun v303 q304 => ?_))
                  have c105_88 : (v190 = tOf 0 → s61 a 21 ≠ 3) → JJ X E 4 G s61 0 0 [(0, .ref a), (2, .int (zI v66)), (3, .int (zI v190))] 105 [] := by
                    intro  fA89
                    refine j_iload_n hx 2 dX12_table_105 rfl ?_
                    refine j_ldcT hx (i := 1) 27 (by decide) rfl rfl rfl dX12_table_106 ?_
                    refine j_callS hx (c_X12_of hst 1) lk_RX12_215 [.ref (zTa E 1)] ⟨rfl, hG, hS_s61, (by decide)⟩ rfl rfl ⟨by decide, by decide⟩ ⟨by decide, by decide⟩ (k2 := 0) (n2 := 0) rfl rfl (Nat.le_of_ble_eq_true rfl) dX12_table_108 (kIP (fun v305 q306 => ?_))
                    refine j_icmp_ne hx 132 dX12_table_111 rfl (by omega) (by omega) (fun h307 => ?_) (fun h307 => ?_)
                    · skip
                      have g308 : s61 (gP G a 13) 0 = s9 (gP G a 13) 0 := (by rw [(zFr_g hF_s61 (zr (k := 13) (t2 := 76) hG ha rfl) (by decide)), (zFr_g hF_s60 (zr (k := 13) (t2 := 76) hG ha rfl) (by decide))])
                      have g309 : s61 (gP G a 13) 1 = s9 (gP G a 13) 1 := (by rw [(zFr_g hF_s61 (zr (k := 13) (t2 := 76) hG ha rfl) (by decide)), (zFr_g hF_s60 (zr (k := 13) (t2 := 76) hG ha rfl) (by decide))])
                      have g310 : s61 (gP G a 13) 2 = s9 (gP G a 13) 2 := (by rw [(zFr_g hF_s61 (zr (k := 13) (t2 := 76) hG ha rfl) (by decide)), (zFr_g hF_s60 (zr (k := 13) (t2 := 76) hG ha rfl) (by decide))])
                      exact j_sub [0, 1, 2] [(0, .ref a), (2, .int (zI v66)), (3, .int (zI v190))] rfl (c132_62 s61 hS_s61 zFr_rf (by omega) (by omega) (by omega) (by omega) (by omega) (by omega) (by omega) (by omega) (by omega) (by omega) (by omega) (by have q1 : s61 (gP G a 10) = s9 (gP G a 10) := (by rw [hF_s61 (gP G a 10) (by rw [(zr (k := 10) (t2 := 73) hG ha rfl)]; decide), hF_s60 (gP G a 10) (by rw [(zr (k := 10) (t2 := 73) hG ha rfl)]; decide)]); rw [q1]; exact (zQi_k fA20 (by omega) (by omega))) (by omega) (by omega) (by omega) (by omega) (by omega))
                    · skip
                      refine j_aload_n hx 0 dX12_table_114 rfl ?_
                      refine g13_23 hx hG ha kf_RX12_186 rfl dX12_table_115 ?_
                      refine j_bipush hx dX12_table_118 rfl ?_
                      refine j_icmp_ne hx 132 dX12_table_120 rfl (by omega) ⟨by decide, by decide⟩ (fun h311 => ?_) (fun h311 => ?_)
                      · skip
                        have g312 : s61 (gP G a 13) 0 = s9 (gP G a 13) 0 := (by rw [(zFr_g hF_s61 (zr (k := 13) (t2 := 76) hG ha rfl) (by decide)), (zFr_g hF_s60 (zr (k := 13) (t2 := 76) hG ha rfl) (by decide))])
                        have g313 : s61 (gP G a 13) 1 = s9 (gP G a 13) 1 := (by rw [(zFr_g hF_s61 (zr (k := 13) (t2 := 76) hG ha rfl) (by decide)), (zFr_g hF_s60 (zr (k := 13) (t2 := 76) hG ha rfl) (by decide))])
                        have g314 : s61 (gP G a 13) 2 = s9 (gP G a 13) 2 := (by rw [(zFr_g hF_s61 (zr (k := 13) (t2 := 76) hG ha rfl) (by decide)), (zFr_g hF_s60 (zr (k := 13) (t2 := 76) hG ha rfl) (by decide))])
                        exact j_sub [0, 1, 2] [(0, .ref a), (2, .int (zI v66)), (3, .int (zI v190))] rfl (c132_62 s61 hS_s61 zFr_rf (by omega) (by omega) (by omega) (by omega) (by omega) (by omega) (by omega) (by omega) (by omega) (by omega) (by omega) (by have q1 : s61 (gP G a 10) = s9 (gP G a 10) := (by rw [hF_s61 (gP G a 10) (by rw [(zr (k := 10) (t2 := 73) hG ha rfl)]; decide), hF_s60 (gP G a 10) (by rw [(zr (k := 10) (t2 := 73) hG ha rfl)]; decide)]); rw [q1]; exact (zQi_k fA20 (by omega) (by omega))) (by omega) (by omega) (by omega) (by omega) (by omega))
                      · skip
                        exact j_sub [0, 1, 2] [(0, .ref a), (2, .int (zI v66)), (3, .int (zI v190))] rfl (c123_86  )
                  refine j_icmp_ne hx 105 dX12_table_94 rfl (by omega) (by omega) (fun h315 => ?_) (fun h315 => ?_)
                  · skip
                    exact j_sub [1, 2, 0] [(0, .ref a), (2, .int (zI v66)), (3, .int (zI v190))] rfl (c105_88  (by omega))
                  · skip
                    refine j_aload_n hx 1 dX12_table_97 rfl ?_
                    refine g13_21 hx hG ha kf_RX12_180 rfl dX12_table_98 ?_
                    refine j_iconst hx dX12_table_101 ?_
                    refine j_icmp_eq hx 123 dX12_table_102 rfl (by omega) ⟨by decide, by decide⟩ (fun h316 => ?_) (fun h316 => ?_)
                    · skip
                      exact j_sub [1, 2, 0] [(0, .ref a), (2, .int (zI v66)), (3, .int (zI v190))] rfl (c123_86  )
                    · skip
                      exact j_sub [1, 2, 0] [(0, .ref a), (2, .int (zI v66)), (3, .int (zI v190))] rfl (c105_88  (by omega))
              · skip
                refine j_aload_n hx 1 dX12_table_70 rfl ?_
                refine j_iconst hx dX12_table_71 ?_
                refine j_aload_n hx 1 dX12_table_72 rfl ?_
                refine g13_4 hx hG ha kf_RX12_143 rfl dX12_table_73 ?_
                refine j_callV hx hG (c_X12_wrong hst a 1 ((s61 a 4))) lk_RX12_173 ha (by decide) rfl rfl rfl rfl [.int (zI 1), .int (zI ((s61 a 4)))] ⟨rfl, hG, hS_s61, ha, (by omega), (by omega)⟩ rfl rfl ⟨by decide, by decide⟩ ⟨by decide, by decide⟩ (k2 := 0) (n2 := 0) rfl rfl (Nat.le_of_ble_eq_true rfl) dX12_table_76 (kVM (fun s90 hS_s90 hF_s90 q318 => ?_))
                refine j_goto hx 132 dX12_table_79 rfl ?_
                have f319 := zf hS_s90 ha (k := 0) rfl
                have f320 := zf hS_s90 ha (k := 3) rfl
                have f321 := zf hS_s90 ha (k := 4) rfl
                have f322 := zf hS_s90 ha (k := 7) rfl
                have f323 := zf hS_s90 ha (k := 21) rfl
                have f324 := zf hS_s90 ha (k := 22) rfl
                have f325 := zf hS_s90 ha (k := 23) rfl
                have f326 := zf hS_s90 ha (k := 24) rfl
                have f327 := zf hS_s90 ha (k := 38) rfl
                have f328 := zf hS_s90 ha (k := 51) rfl
                have f329 := zf hS_s90 ha (k := 52) rfl
                have f330 := zf hS_s90 ha (k := 5) rfl
                have g331 : s90 (gP G a 13) 0 = s9 (gP G a 13) 0 := (by rw [(zFr_g hF_s90 (zr (k := 13) (t2 := 76) hG ha rfl) (by decide)), (zFr_g hF_s61 (zr (k := 13) (t2 := 76) hG ha rfl) (by decide)), (zFr_g hF_s60 (zr (k := 13) (t2 := 76) hG ha rfl) (by decide))])
                have g332 : s90 (gP G a 13) 1 = s9 (gP G a 13) 1 := (by rw [(zFr_g hF_s90 (zr (k := 13) (t2 := 76) hG ha rfl) (by decide)), (zFr_g hF_s61 (zr (k := 13) (t2 := 76) hG ha rfl) (by decide)), (zFr_g hF_s60 (zr (k := 13) (t2 := 76) hG ha rfl) (by decide))])
                have g333 : s90 (gP G a 13) 2 = s9 (gP G a 13) 2 := (by rw [(zFr_g hF_s90 (zr (k := 13) (t2 := 76) hG ha rfl) (by decide)), (zFr_g hF_s61 (zr (k := 13) (t2 := 76) hG ha rfl) (by decide)), (zFr_g hF_s60 (zr (k := 13) (t2 := 76) hG ha rfl) (by decide))])
                exact j_sub [1, 2, 0] [(0, .ref a), (2, .int (zI v66)), (3, .int (zI v190))] rfl (c132_62 s90 hS_s90 (zFr_t zFr_rf hF_s90 (by decide)) (by omega) (by omega) (by omega) (by omega) (by omega) (by omega) (by omega) (by omega) (by omega) (by omega) (by omega) (by have q1 : s90 (gP G a 10) = s9 (gP G a 10) := (by rw [hF_s90 (gP G a 10) (by rw [(zr (k := 10) (t2 := 73) hG ha rfl)]; decide), hF_s61 (gP G a 10) (by rw [(zr (k := 10) (t2 := 73) hG ha rfl)]; decide), hF_s60 (gP G a 10) (by rw [(zr (k := 10) (t2 := 73) hG ha rfl)]; decide)]); rw [q1]; exact (zQi_k fA20 (by omega) (by omega))) (by omega) (by omega) (by omega) (by omega) (by omega))
      have f334 := zf hS_s7 ha (k := 5) rfl
      exact j_sub [1, 0] [(0, .ref a), (2, .int (zI 0))] rfl (c44_8 (2147483648 * 4) 0 s7 (by omega) (by omega) hS_s7 zFr_rf (by omega) (by omega) (by omega) (by omega) (by omega) (by omega) (by omega) (zQi_k hP65 (by omega) (by omega)) (by omega) (by omega) (by omega) (by omega) (by omega))
  have c22_91 : JJ X E 4 G s1 0 0 [(0, .ref a), (1, .int (zI x1))] 22 [.ref a] := by
    refine j_iconst hx dX12_table_22 ?_
    exact j_sub [0, 1] [(0, .ref a), (1, .int (zI x1))] rfl (c23_2 0 (by omega) (by omega))
  refine j_if_lt hx 22 dX12_table_7 rfl (by omega) (fun h335 => ?_) (fun h335 => ?_)
  · skip
    exact j_sub [0, 1] [(0, .ref a), (1, .int (zI x1))] rfl (c22_91  )
  · skip
    refine j_iload_n hx 1 dX12_table_10 rfl ?_
    refine j_aload_n hx 0 dX12_table_11 rfl ?_
    have f336 := zf hS0 ha (k := 2) rfl
    refine g13_2 hx hG ha kf_RX12_134 (v := (s0 a 2)) (by rw [e_s1, zU_at (Or.inr (by decide))]) dX12_table_12 ?_
    refine j_icmp_gt hx 22 dX12_table_15 rfl (by omega) (by omega) (fun h337 => ?_) (fun h337 => ?_)
    · skip
      exact j_sub [0, 1] [(0, .ref a), (1, .int (zI x1))] rfl (c22_91  )
    · skip
      refine j_iconst hx dX12_table_18 ?_
      refine j_goto hx 23 dX12_table_19 rfl ?_
      exact j_sub [0, 1] [(0, .ref a), (1, .int (zI x1))] rfl (c23_2 1 (by omega) (by omega))

set_option maxHeartbeats 1200000 in
set_option maxRecDepth 20000 in
theorem c_X12_book {E : zE} {l : Launch} (hst : l.stackTraces = false) (a : Nat) (x1 : Int) : Con E l yX12_book cX12_book 6 (some .int) { frames := 2, cells := 0, slots := 0, locals := 47 } (fun G s vs => vs = [.ref a, .int (zI x1)] ∧ zGK G ∧ zSK G s ∧ (gT G a = 13) ∧ ((-2147483648) ≤ x1 ∧ x1 ≤ 2147483647)) (fun G s _ => pI (fun r G2 s2 => G2 = G ∧ zSK G s2 ∧ zFr [13, 71, 96, 97] G s s2 ∧ ((-2147483648) ≤ r ∧ r ≤ 2147483647) ∧ s2 a 21 = s a 21 ∧ s2 a 22 = s a 22 ∧ s2 a 23 = s a 23 ∧ s2 a 24 = s a 24 ∧ s2 a 38 = s a 38 ∧ s2 a 51 = s a 51 ∧ s2 a 52 = s a 52)) := by
  refine Con.mk hst (by decide) (fun G s vs h => by rw [h.1]; exact Nat.le_of_ble_eq_true rfl) ?_
  rintro X G s0 vs ⟨rfl, hG, hS0, ha, hx1⟩ rfl hx hq
  show JJ X E 6 G s0 0 0 [(0, .ref a), (1, .int (zI x1))] 0 []
  refine j_aload_n hx 0 dX12_book_0 rfl ?_
  refine j_iconst hx dX12_book_1 ?_
  refine p13_0 hx hG ha kf_RX12_3 dX12_book_2 ?_
  obtain ⟨s1, e_s1⟩ : ∃ z, z = zU s0 a 0 0 := ⟨_, rfl⟩
  rw [← e_s1]
  have hS_s1 : zSK G s1 := by rw [e_s1]; exact zSK_F hS0 ha rfl rfl rfl (by omega)
  refine j_aload_n hx 0 dX12_book_5 rfl ?_
  refine j_iload_n hx 1 dX12_book_6 rfl ?_
  refine j_if_lt hx 28 dX12_book_7 rfl (by omega) (fun h1 => ?_) (fun h1 => ?_)
  · skip
    refine j_iconst hx dX12_book_28 ?_
    refine j_iconst hx dX12_book_29 ?_
    refine j_iconst hx dX12_book_30 ?_
    have g2 : s1 a 0 = 0 := (by rw [e_s1, zU_eq])
    have g3 : s1 a 3 = s0 a 3 := (by rw [e_s1, zU_at (Or.inr (by decide))])
    have f4 := zf hS0 ha (k := 3) rfl
    have g5 : s1 a 4 = s0 a 4 := (by rw [e_s1, zU_at (Or.inr (by decide))])
    have f6 := zf hS0 ha (k := 4) rfl
    have g7 : s1 a 5 = s0 a 5 := (by rw [e_s1, zU_at (Or.inr (by decide))])
    have f8 := zf hS0 ha (k := 5) rfl
    have g9 : s1 a 7 = s0 a 7 := (by rw [e_s1, zU_at (Or.inr (by decide))])
    have f10 := zf hS0 ha (k := 7) rfl
    have g11 : s1 a 21 = s0 a 21 := (by rw [e_s1, zU_at (Or.inr (by decide))])
    have f12 := zf hS0 ha (k := 21) rfl
    have g13 : s1 a 22 = s0 a 22 := (by rw [e_s1, zU_at (Or.inr (by decide))])
    have f14 := zf hS0 ha (k := 22) rfl
    have g15 : s1 a 23 = s0 a 23 := (by rw [e_s1, zU_at (Or.inr (by decide))])
    have f16 := zf hS0 ha (k := 23) rfl
    have g17 : s1 a 24 = s0 a 24 := (by rw [e_s1, zU_at (Or.inr (by decide))])
    have f18 := zf hS0 ha (k := 24) rfl
    have g19 : s1 a 38 = s0 a 38 := (by rw [e_s1, zU_at (Or.inr (by decide))])
    have f20 := zf hS0 ha (k := 38) rfl
    have g21 : s1 a 51 = s0 a 51 := (by rw [e_s1, zU_at (Or.inr (by decide))])
    have f22 := zf hS0 ha (k := 51) rfl
    have g23 : s1 a 52 = s0 a 52 := (by rw [e_s1, zU_at (Or.inr (by decide))])
    have f24 := zf hS0 ha (k := 52) rfl
    refine j_callV hx hG (c_X12_may_f hst a 0 1 1) lk_RX12_240 ha (by decide) rfl rfl rfl rfl [.int (zI 0), .int (zI 1), .int (zI 1)] ⟨rfl, hG, hS_s1, ha, (by omega), (by omega), (by omega), (((by rw [e_s1, zU_eq]) : s1 a 0 = 0).trans (by omega))⟩ rfl rfl ⟨by decide, by decide⟩ ⟨by decide, by decide⟩ (k2 := 0) (n2 := 0) rfl rfl (Nat.le_of_ble_eq_true rfl) dX12_book_31 (kIM (fun v25 s2 hS_s2 hF_s2 q26 => ?_))
    refine j_if_ne hx 39 dX12_book_34 rfl (by omega) (fun h27 => absurd h27 (by omega)) (fun h27 => ?_)
    refine j_iconst hx dX12_book_37 ?_
    have f28 := zf hS_s2 ha (k := 21) rfl
    have f29 := zf hS_s2 ha (k := 22) rfl
    have f30 := zf hS_s2 ha (k := 23) rfl
    have f31 := zf hS_s2 ha (k := 24) rfl
    have f32 := zf hS_s2 ha (k := 38) rfl
    have f33 := zf hS_s2 ha (k := 51) rfl
    have f34 := zf hS_s2 ha (k := 52) rfl
    exact j_iret hx hq rfl (by decide) (by decide) dX12_book_38 ⟨0, rfl, rfl, hS_s2, (zFr_t (zFr_u zFr_rf e_s1 ha (by decide)) hF_s2 (by decide)), ⟨(by omega), by omega, by omega, by omega, by omega, by omega, by omega, by omega⟩⟩
  · skip
    refine j_iload_n hx 1 dX12_book_10 rfl ?_
    refine j_aload_n hx 0 dX12_book_11 rfl ?_
    have f35 := zf hS0 ha (k := 2) rfl
    refine g13_2 hx hG ha kf_RX12_134 (v := (s0 a 2)) (by rw [e_s1, zU_at (Or.inr (by decide))]) dX12_book_12 ?_
    refine j_icmp_gt hx 28 dX12_book_15 rfl (by omega) (by omega) (fun h36 => ?_) (fun h36 => ?_)
    · skip
      refine j_iconst hx dX12_book_28 ?_
      refine j_iconst hx dX12_book_29 ?_
      refine j_iconst hx dX12_book_30 ?_
      have g37 : s1 a 0 = 0 := (by rw [e_s1, zU_eq])
      have g38 : s1 a 3 = s0 a 3 := (by rw [e_s1, zU_at (Or.inr (by decide))])
      have f39 := zf hS0 ha (k := 3) rfl
      have g40 : s1 a 4 = s0 a 4 := (by rw [e_s1, zU_at (Or.inr (by decide))])
      have f41 := zf hS0 ha (k := 4) rfl
      have g42 : s1 a 5 = s0 a 5 := (by rw [e_s1, zU_at (Or.inr (by decide))])
      have f43 := zf hS0 ha (k := 5) rfl
      have g44 : s1 a 7 = s0 a 7 := (by rw [e_s1, zU_at (Or.inr (by decide))])
      have f45 := zf hS0 ha (k := 7) rfl
      have g46 : s1 a 21 = s0 a 21 := (by rw [e_s1, zU_at (Or.inr (by decide))])
      have f47 := zf hS0 ha (k := 21) rfl
      have g48 : s1 a 22 = s0 a 22 := (by rw [e_s1, zU_at (Or.inr (by decide))])
      have f49 := zf hS0 ha (k := 22) rfl
      have g50 : s1 a 23 = s0 a 23 := (by rw [e_s1, zU_at (Or.inr (by decide))])
      have f51 := zf hS0 ha (k := 23) rfl
      have g52 : s1 a 24 = s0 a 24 := (by rw [e_s1, zU_at (Or.inr (by decide))])
      have f53 := zf hS0 ha (k := 24) rfl
      have g54 : s1 a 38 = s0 a 38 := (by rw [e_s1, zU_at (Or.inr (by decide))])
      have f55 := zf hS0 ha (k := 38) rfl
      have g56 : s1 a 51 = s0 a 51 := (by rw [e_s1, zU_at (Or.inr (by decide))])
      have f57 := zf hS0 ha (k := 51) rfl
      have g58 : s1 a 52 = s0 a 52 := (by rw [e_s1, zU_at (Or.inr (by decide))])
      have f59 := zf hS0 ha (k := 52) rfl
      refine j_callV hx hG (c_X12_may_f hst a 0 1 1) lk_RX12_240 ha (by decide) rfl rfl rfl rfl [.int (zI 0), .int (zI 1), .int (zI 1)] ⟨rfl, hG, hS_s1, ha, (by omega), (by omega), (by omega), (((by rw [e_s1, zU_eq]) : s1 a 0 = 0).trans (by omega))⟩ rfl rfl ⟨by decide, by decide⟩ ⟨by decide, by decide⟩ (k2 := 0) (n2 := 0) rfl rfl (Nat.le_of_ble_eq_true rfl) dX12_book_31 (kIM (fun v60 s3 hS_s3 hF_s3 q61 => ?_))
      refine j_if_ne hx 39 dX12_book_34 rfl (by omega) (fun h62 => absurd h62 (by omega)) (fun h62 => ?_)
      refine j_iconst hx dX12_book_37 ?_
      have f63 := zf hS_s3 ha (k := 21) rfl
      have f64 := zf hS_s3 ha (k := 22) rfl
      have f65 := zf hS_s3 ha (k := 23) rfl
      have f66 := zf hS_s3 ha (k := 24) rfl
      have f67 := zf hS_s3 ha (k := 38) rfl
      have f68 := zf hS_s3 ha (k := 51) rfl
      have f69 := zf hS_s3 ha (k := 52) rfl
      exact j_iret hx hq rfl (by decide) (by decide) dX12_book_38 ⟨0, rfl, rfl, hS_s3, (zFr_t (zFr_u zFr_rf e_s1 ha (by decide)) hF_s3 (by decide)), ⟨(by omega), by omega, by omega, by omega, by omega, by omega, by omega, by omega⟩⟩
    · skip
      refine j_iload_n hx 1 dX12_book_18 rfl ?_
      refine j_bipush hx dX12_book_19 rfl ?_
      refine j_icmp_gt hx 28 dX12_book_21 rfl (by omega) ⟨by decide, by decide⟩ (fun h70 => ?_) (fun h70 => ?_)
      · skip
        refine j_iconst hx dX12_book_28 ?_
        refine j_iconst hx dX12_book_29 ?_
        refine j_iconst hx dX12_book_30 ?_
        have g71 : s1 a 0 = 0 := (by rw [e_s1, zU_eq])
        have g72 : s1 a 3 = s0 a 3 := (by rw [e_s1, zU_at (Or.inr (by decide))])
        have f73 := zf hS0 ha (k := 3) rfl
        have g74 : s1 a 4 = s0 a 4 := (by rw [e_s1, zU_at (Or.inr (by decide))])
        have f75 := zf hS0 ha (k := 4) rfl
        have g76 : s1 a 5 = s0 a 5 := (by rw [e_s1, zU_at (Or.inr (by decide))])
        have f77 := zf hS0 ha (k := 5) rfl
        have g78 : s1 a 7 = s0 a 7 := (by rw [e_s1, zU_at (Or.inr (by decide))])
        have f79 := zf hS0 ha (k := 7) rfl
        have g80 : s1 a 21 = s0 a 21 := (by rw [e_s1, zU_at (Or.inr (by decide))])
        have f81 := zf hS0 ha (k := 21) rfl
        have g82 : s1 a 22 = s0 a 22 := (by rw [e_s1, zU_at (Or.inr (by decide))])
        have f83 := zf hS0 ha (k := 22) rfl
        have g84 : s1 a 23 = s0 a 23 := (by rw [e_s1, zU_at (Or.inr (by decide))])
        have f85 := zf hS0 ha (k := 23) rfl
        have g86 : s1 a 24 = s0 a 24 := (by rw [e_s1, zU_at (Or.inr (by decide))])
        have f87 := zf hS0 ha (k := 24) rfl
        have g88 : s1 a 38 = s0 a 38 := (by rw [e_s1, zU_at (Or.inr (by decide))])
        have f89 := zf hS0 ha (k := 38) rfl
        have g90 : s1 a 51 = s0 a 51 := (by rw [e_s1, zU_at (Or.inr (by decide))])
        have f91 := zf hS0 ha (k := 51) rfl
        have g92 : s1 a 52 = s0 a 52 := (by rw [e_s1, zU_at (Or.inr (by decide))])
        have f93 := zf hS0 ha (k := 52) rfl
        refine j_callV hx hG (c_X12_may_f hst a 0 1 1) lk_RX12_240 ha (by decide) rfl rfl rfl rfl [.int (zI 0), .int (zI 1), .int (zI 1)] ⟨rfl, hG, hS_s1, ha, (by omega), (by omega), (by omega), (((by rw [e_s1, zU_eq]) : s1 a 0 = 0).trans (by omega))⟩ rfl rfl ⟨by decide, by decide⟩ ⟨by decide, by decide⟩ (k2 := 0) (n2 := 0) rfl rfl (Nat.le_of_ble_eq_true rfl) dX12_book_31 (kIM (fun v94 s4 hS_s4 hF_s4 q95 => ?_))
        refine j_if_ne hx 39 dX12_book_34 rfl (by omega) (fun h96 => absurd h96 (by omega)) (fun h96 => ?_)
        refine j_iconst hx dX12_book_37 ?_
        have f97 := zf hS_s4 ha (k := 21) rfl
        have f98 := zf hS_s4 ha (k := 22) rfl
        have f99 := zf hS_s4 ha (k := 23) rfl
        have f100 := zf hS_s4 ha (k := 24) rfl
        have f101 := zf hS_s4 ha (k := 38) rfl
        have f102 := zf hS_s4 ha (k := 51) rfl
        have f103 := zf hS_s4 ha (k := 52) rfl
        exact j_iret hx hq rfl (by decide) (by decide) dX12_book_38 ⟨0, rfl, rfl, hS_s4, (zFr_t (zFr_u zFr_rf e_s1 ha (by decide)) hF_s4 (by decide)), ⟨(by omega), by omega, by omega, by omega, by omega, by omega, by omega, by omega⟩⟩
      · skip
        refine j_iconst hx dX12_book_24 ?_
        refine j_goto hx 29 dX12_book_25 rfl ?_
        refine j_iconst hx dX12_book_29 ?_
        refine j_iconst hx dX12_book_30 ?_
        have g104 : s1 a 0 = 0 := (by rw [e_s1, zU_eq])
        refine j_callV hx hG (c_X12_may_t hst a 1 1 1) lk_RX12_240 ha (by decide) rfl rfl rfl rfl [.int (zI 1), .int (zI 1), .int (zI 1)] ⟨rfl, hG, hS_s1, ha, (by omega), (by omega), (by omega), (((by rw [e_s1, zU_eq]) : s1 a 0 = 0).trans (by omega))⟩ rfl rfl ⟨by decide, by decide⟩ ⟨by decide, by decide⟩ (k2 := 0) (n2 := 0) rfl rfl (Nat.le_of_ble_eq_true rfl) dX12_book_31 (kIP (fun v105 q106 => ?_))
        refine j_if_ne hx 39 dX12_book_34 rfl (by omega) (fun h107 => ?_) (fun h107 => absurd h107 (by omega))
        refine j_aload_n hx 0 dX12_book_39 rfl ?_
        refine j_iload_n hx 1 dX12_book_40 rfl ?_
        have g108 : s1 a 21 = s0 a 21 := (by rw [e_s1, zU_at (Or.inr (by decide))])
        have f109 := zf hS0 ha (k := 21) rfl
        have g110 : s1 a 22 = s0 a 22 := (by rw [e_s1, zU_at (Or.inr (by decide))])
        have f111 := zf hS0 ha (k := 22) rfl
        have g112 : s1 a 23 = s0 a 23 := (by rw [e_s1, zU_at (Or.inr (by decide))])
        have f113 := zf hS0 ha (k := 23) rfl
        have g114 : s1 a 24 = s0 a 24 := (by rw [e_s1, zU_at (Or.inr (by decide))])
        have f115 := zf hS0 ha (k := 24) rfl
        have g116 : s1 a 38 = s0 a 38 := (by rw [e_s1, zU_at (Or.inr (by decide))])
        have f117 := zf hS0 ha (k := 38) rfl
        have g118 : s1 a 51 = s0 a 51 := (by rw [e_s1, zU_at (Or.inr (by decide))])
        have f119 := zf hS0 ha (k := 51) rfl
        have g120 : s1 a 52 = s0 a 52 := (by rw [e_s1, zU_at (Or.inr (by decide))])
        have f121 := zf hS0 ha (k := 52) rfl
        refine j_callV hx hG (c_X12_begins hst a x1) lk_RX12_244 ha (by decide) rfl rfl rfl rfl [.int (zI x1)] ⟨rfl, hG, hS_s1, ha, (by omega)⟩ rfl rfl ⟨by decide, by decide⟩ ⟨by decide, by decide⟩ (k2 := 0) (n2 := 0) rfl rfl (Nat.le_of_ble_eq_true rfl) dX12_book_41 (kVM (fun s5 hS_s5 hF_s5 q123 => ?_))
        refine j_iconst hx dX12_book_44 ?_
        refine j_istore_n hx [(2, .int (zI 0)), (0, .ref a), (1, .int (zI x1))] dX12_book_45 (by decide) rfl ?_
        have f125 := zf hS_s5 ha (k := 0) rfl
        have f126 := zf hS_s5 ha (k := 3) rfl
        have f127 := zf hS_s5 ha (k := 21) rfl
        have f128 := zf hS_s5 ha (k := 22) rfl
        have f129 := zf hS_s5 ha (k := 23) rfl
        have f130 := zf hS_s5 ha (k := 24) rfl
        have f131 := zf hS_s5 ha (k := 38) rfl
        have f132 := zf hS_s5 ha (k := 51) rfl
        have f133 := zf hS_s5 ha (k := 52) rfl
        have c46_6 : ∀ (m_c46_6 : Nat) (v124 : Int) (s7 : zS), 3000 - 2 * s7 a 4 - s7 a 5 < m_c46_6 → (0 ≤ v124 ∧ v124 ≤ 12) → (zSK G s7) → (zFr [13, 96] G s5 s7) → (s7 a 0 = s5 a 0) → (s7 a 3 = s5 a 3) → (s7 a 7 = s5 a 7) → (s7 a 21 = s5 a 21) → (s7 a 22 = s5 a 22) → (s7 a 23 = s5 a 23) → (s7 a 24 = s5 a 24) → (s7 a 38 = s5 a 38) → (s7 a 51 = s5 a 51) → (s7 a 52 = s5 a 52) → (s5 a 4 ≤ s7 a 4) → (s7 a 4 ≤ s7 a 3 + 2) → (s7 a 4 ≤ 700) → (s7 a 5 ≤ 700) → JJ X E 6 G s7 0 0 [(0, .ref a), (2, .int (zI v124))] 46 [] := by
          intro m_c46_6
          induction m_c46_6 with
          | zero => intro v124 s7 hm_c46_6 fA8 hS_s7 hF_s7 fA11 fA12 fA13 fA14 fA15 fA16 fA17 fA18 fA19 fA20 fA21 fA22 fA23 fA24; exfalso; omega
          | succ m_c46_6 ih_c46_6 => 
            intro v124 s7 hm_c46_6 fA8 hS_s7 hF_s7 fA11 fA12 fA13 fA14 fA15 fA16 fA17 fA18 fA19 fA20 fA21 fA22 fA23 fA24
            refine j_aload_n hx 0 dX12_book_46 rfl ?_
            refine j_callV hx hG (c_X12_fine hst a) lk_RX12_166 ha (by decide) rfl rfl rfl rfl [] ⟨rfl, hG, hS_s7, ha⟩ rfl rfl ⟨by decide, by decide⟩ ⟨by decide, by decide⟩ (k2 := 0) (n2 := 0) rfl rfl (Nat.le_of_ble_eq_true rfl) dX12_book_47 (kIP (fun v134 q135 => ?_))
            refine j_if_eq hx 151 dX12_book_50 rfl (by omega) (fun h136 => ?_) (fun h136 => ?_)
            · skip
              refine j_aload_n hx 0 dX12_book_151 rfl ?_
              refine j_iload_n hx 1 dX12_book_152 rfl ?_
              have f137 := zf hS_s7 ha (k := 0) rfl
              have f138 := zf hS_s7 ha (k := 3) rfl
              have f139 := zf hS_s7 ha (k := 4) rfl
              have f140 := zf hS_s7 ha (k := 5) rfl
              have f141 := zf hS_s7 ha (k := 7) rfl
              have f142 := zf hS_s7 ha (k := 21) rfl
              have f143 := zf hS_s7 ha (k := 22) rfl
              have f144 := zf hS_s7 ha (k := 23) rfl
              have f145 := zf hS_s7 ha (k := 24) rfl
              have f146 := zf hS_s7 ha (k := 38) rfl
              have f147 := zf hS_s7 ha (k := 51) rfl
              have f148 := zf hS_s7 ha (k := 52) rfl
              refine j_callV hx hG (c_X12_result hst a v124) lk_RX12_265 ha (by decide) rfl rfl rfl rfl [.int (zI v124)] ⟨rfl, hG, hS_s7, ha, (by omega)⟩ rfl rfl ⟨by decide, by decide⟩ ⟨by decide, by decide⟩ (k2 := 0) (n2 := 0) rfl rfl (Nat.le_of_ble_eq_true rfl) dX12_book_153 (kIM (fun v149 s25 hS_s25 hF_s25 q150 => ?_))
              refine j_istore_n hx [(3, .int (zI v149)), (0, .ref a), (2, .int (zI v124))] dX12_book_156 (by decide) rfl ?_
              refine j_aload_n hx 1 dX12_book_157 rfl ?_
              have f151 := zf hS_s25 ha (k := 5) rfl
              refine g13_5 hx hG ha kf_RX12_137 rfl dX12_book_158 ?_
              refine j_iconst hx dX12_book_161 ?_
              refine j_icmp_eq hx 167 dX12_book_162 rfl (by omega) ⟨by decide, by decide⟩ (fun h152 => ?_) (fun h152 => ?_)
              · skip
                refine j_aload_n hx 1 dX12_book_167 rfl ?_
                refine j_iload_n hx 2 dX12_book_168 rfl ?_
                refine p13_41 hx hG ha kf_RX12_198 dX12_book_169 ?_
                obtain ⟨s26, e_s26⟩ : ∃ z, z = zU s25 a 41 v124 := ⟨_, rfl⟩
                rw [← e_s26]
                have hS_s26 : zSK G s26 := by rw [e_s26]; exact zSK_F hS_s25 ha rfl rfl rfl (by omega)
                refine j_iconst hx dX12_book_172 ?_
                refine j_istore hx [(4, .int (zI 0)), (3, .int (zI v149)), (0, .ref a), (2, .int (zI v124))] dX12_book_173 (by decide) rfl ?_
                have c175_27 : ∀ (m_c175_27 : Nat) (v153 : Int) (s28 : zS), 2147483648 - v153 < m_c175_27 → (0 ≤ v153 ∧ v153 ≤ 2147483647) → (zSK G s28) → (zFr [97] G s26 s28) → JJ X E 6 G s28 0 0 [(0, .ref a), (2, .int (zI v124)), (3, .int (zI v149)), (4, .int (zI v153))] 175 [] := by
                  intro m_c175_27
                  induction m_c175_27 with
                  | zero => intro v153 s28 hm_c175_27 fA29 hS_s28 hF_s28; exfalso; omega
                  | succ m_c175_27 ih_c175_27 => 
                    intro v153 s28 hm_c175_27 fA29 hS_s28 hF_s28
                    refine j_iload hx 3 dX12_book_175 rfl ?_
                    refine j_iconst hx dX12_book_177 ?_
                    refine j_iload_n hx 1 dX12_book_178 rfl ?_
                    refine j_imul hx (r := 2 * v124) dX12_book_179 rfl ?_
                    refine j_icmp_ge hx 203 dX12_book_180 rfl (by omega) (by omega) (fun h154 => ?_) (fun h154 => ?_)
                    · skip
                      refine j_iload_n hx 2 dX12_book_203 rfl ?_
                      have g155 : s28 a 21 = s25 a 21 := (by rw [(zFr_g hF_s28 ha (by decide)), e_s26, zU_at (Or.inr (by decide))])
                      have f156 := zf hS_s25 ha (k := 21) rfl
                      have g157 : s28 a 22 = s25 a 22 := (by rw [(zFr_g hF_s28 ha (by decide)), e_s26, zU_at (Or.inr (by decide))])
                      have f158 := zf hS_s25 ha (k := 22) rfl
                      have g159 : s28 a 23 = s25 a 23 := (by rw [(zFr_g hF_s28 ha (by decide)), e_s26, zU_at (Or.inr (by decide))])
                      have f160 := zf hS_s25 ha (k := 23) rfl
                      have g161 : s28 a 24 = s25 a 24 := (by rw [(zFr_g hF_s28 ha (by decide)), e_s26, zU_at (Or.inr (by decide))])
                      have f162 := zf hS_s25 ha (k := 24) rfl
                      have g163 : s28 a 38 = s25 a 38 := (by rw [(zFr_g hF_s28 ha (by decide)), e_s26, zU_at (Or.inr (by decide))])
                      have f164 := zf hS_s25 ha (k := 38) rfl
                      have g165 : s28 a 51 = s25 a 51 := (by rw [(zFr_g hF_s28 ha (by decide)), e_s26, zU_at (Or.inr (by decide))])
                      have f166 := zf hS_s25 ha (k := 51) rfl
                      have g167 : s28 a 52 = s25 a 52 := (by rw [(zFr_g hF_s28 ha (by decide)), e_s26, zU_at (Or.inr (by decide))])
                      have f168 := zf hS_s25 ha (k := 52) rfl
                      exact j_iret hx hq rfl (by decide) (by decide) dX12_book_204 ⟨v149, rfl, rfl, hS_s28, (zFr_t (zFr_u (zFr_t (zFr_t (zFr_t (zFr_u zFr_rf e_s1 ha (by decide)) hF_s5 (by decide)) hF_s7 (by decide)) hF_s25 (by decide)) e_s26 ha (by decide)) hF_s28 (by decide)), ⟨(by omega), by omega, by omega, by omega, by omega, by omega, by omega, by omega⟩⟩
                    · skip
                      refine j_aload_n hx 0 dX12_book_183 rfl ?_
                      refine g13_40 hx hG ha kf_RX12_92 dX12_book_184 ?_
                      refine j_iload hx 3 dX12_book_187 rfl ?_
                      refine j_aload_n hx 0 dX12_book_189 rfl ?_
                      refine g13_39 hx hG ha kf_RX12_89 dX12_book_190 ?_
                      refine j_iload hx 3 dX12_book_193 rfl ?_
                      have f169 := zaI (j := (v153).toNat) hS_s7 (zr (k := 39) (t2 := 96) hG ha rfl) rfl (zlen hG (zr (k := 39) (t2 := 96) hG ha rfl) (n := 24) rfl rfl) (show 0 ≤ v153 by omega) (by omega) rfl
                      refine j_iald hx hG (zr (k := 39) (t2 := 96) hG ha rfl) (by decide) rfl (zlen hG (zr (k := 39) (t2 := 96) hG ha rfl) (n := 24) rfl rfl) (by omega) (by omega) (j := (v153).toNat) rfl (v := (s7 (gP G a 39) (v153).toNat)) (by rw [(zFr_g hF_s28 (zr (k := 39) (t2 := 96) hG ha rfl) (by decide)), e_s26, zU_at (Or.inl (zne ha (zr (k := 39) (t2 := 96) hG ha rfl) (by decide))), (zFr_g hF_s25 (zr (k := 39) (t2 := 96) hG ha rfl) (by decide))]) dX12_book_195 ?_
                      refine j_iast hx hG (zr (k := 40) (t2 := 97) hG ha rfl) (by decide) rfl (zlen hG (zr (k := 40) (t2 := 97) hG ha rfl) (n := 24) rfl rfl) (by omega) (by omega) (j := (v153).toNat) rfl dX12_book_196 ?_
                      obtain ⟨s32, e_s32⟩ : ∃ z, z = zU s28 (gP G a 40) (v153).toNat ((s7 (gP G a 39) (v153).toNat)) := ⟨_, rfl⟩
                      rw [← e_s32]
                      have hS_s32 : zSK G s32 := by rw [e_s32]; exact zSK_A hS_s28 (zr (k := 40) (t2 := 97) hG ha rfl) rfl rfl rfl (by omega)
                      refine j_iinc hx 3 [(4, .int (zI (v153 + 1))), (0, .ref a), (2, .int (zI v124)), (3, .int (zI v149))] dX12_book_197 rfl (by omega) (by decide) rfl ?_
                      refine j_goto hx 175 dX12_book_200 rfl ?_
                      exact j_sub [1, 2, 3, 0] [(0, .ref a), (2, .int (zI v124)), (3, .int (zI v149)), (4, .int (zI (v153 + 1)))] rfl (ih_c175_27 (v153 + 1) s32 (by omega) (by omega) hS_s32 (zFr_u (zFr_t zFr_rf hF_s28 (by decide)) e_s32 (zr (k := 40) (t2 := 97) hG ha rfl) (by decide)))
                exact j_sub [2, 3, 1, 0] [(0, .ref a), (2, .int (zI v124)), (3, .int (zI v149)), (4, .int (zI 0))] rfl (c175_27 (2147483648 * 4) 0 s26 (by omega) (by omega) hS_s26 zFr_rf)
              · skip
                refine j_iload_n hx 0 dX12_book_165 rfl ?_
                have f170 := zf hS_s25 ha (k := 21) rfl
                have f171 := zf hS_s25 ha (k := 22) rfl
                have f172 := zf hS_s25 ha (k := 23) rfl
                have f173 := zf hS_s25 ha (k := 24) rfl
                have f174 := zf hS_s25 ha (k := 38) rfl
                have f175 := zf hS_s25 ha (k := 51) rfl
                have f176 := zf hS_s25 ha (k := 52) rfl
                exact j_iret hx hq rfl (by decide) (by decide) dX12_book_166 ⟨v149, rfl, rfl, hS_s25, (zFr_t (zFr_t (zFr_t (zFr_u zFr_rf e_s1 ha (by decide)) hF_s5 (by decide)) hF_s7 (by decide)) hF_s25 (by decide)), ⟨(by omega), by omega, by omega, by omega, by omega, by omega, by omega, by omega⟩⟩
            · skip
              refine j_aload_n hx 0 dX12_book_53 rfl ?_
              have f177 := zf hS_s7 ha (k := 4) rfl
              have f178 := zf hS_s7 ha (k := 3) rfl
              have f179 := zf hS_s7 ha (k := 0) rfl
              have f180 := zf hS_s7 ha (k := 5) rfl
              have f181 := zf hS_s7 ha (k := 7) rfl
              have f182 := zf hS_s7 ha (k := 21) rfl
              have f183 := zf hS_s7 ha (k := 22) rfl
              have f184 := zf hS_s7 ha (k := 23) rfl
              have f185 := zf hS_s7 ha (k := 24) rfl
              have f186 := zf hS_s7 ha (k := 38) rfl
              have f187 := zf hS_s7 ha (k := 51) rfl
              have f188 := zf hS_s7 ha (k := 52) rfl
              refine j_callV hx hG (c_X12_isMore hst a) lk_RX12_247 ha (by decide) rfl rfl rfl rfl [] ⟨rfl, hG, hS_s7, ha, (by omega)⟩ rfl rfl ⟨by decide, by decide⟩ ⟨by decide, by decide⟩ (k2 := 0) (n2 := 0) rfl rfl (Nat.le_of_ble_eq_true rfl) dX12_book_54 (kIM (fun v189 s33 hS_s33 hF_s33 q190 => ?_))
              refine j_if_eq hx 151 dX12_book_57 rfl (by omega) (fun h191 => ?_) (fun h191 => ?_)
              · skip
                refine j_aload_n hx 0 dX12_book_151 rfl ?_
                refine j_iload_n hx 1 dX12_book_152 rfl ?_
                have f192 := zf hS_s33 ha (k := 0) rfl
                have f193 := zf hS_s33 ha (k := 3) rfl
                have f194 := zf hS_s33 ha (k := 4) rfl
                have f195 := zf hS_s33 ha (k := 5) rfl
                have f196 := zf hS_s33 ha (k := 7) rfl
                have f197 := zf hS_s33 ha (k := 21) rfl
                have f198 := zf hS_s33 ha (k := 22) rfl
                have f199 := zf hS_s33 ha (k := 23) rfl
                have f200 := zf hS_s33 ha (k := 24) rfl
                have f201 := zf hS_s33 ha (k := 38) rfl
                have f202 := zf hS_s33 ha (k := 51) rfl
                have f203 := zf hS_s33 ha (k := 52) rfl
                refine j_callV hx hG (c_X12_result hst a v124) lk_RX12_265 ha (by decide) rfl rfl rfl rfl [.int (zI v124)] ⟨rfl, hG, hS_s33, ha, (by omega)⟩ rfl rfl ⟨by decide, by decide⟩ ⟨by decide, by decide⟩ (k2 := 0) (n2 := 0) rfl rfl (Nat.le_of_ble_eq_true rfl) dX12_book_153 (kIM (fun v204 s34 hS_s34 hF_s34 q205 => ?_))
                refine j_istore_n hx [(3, .int (zI v204)), (0, .ref a), (2, .int (zI v124))] dX12_book_156 (by decide) rfl ?_
                refine j_aload_n hx 1 dX12_book_157 rfl ?_
                have f206 := zf hS_s34 ha (k := 5) rfl
                refine g13_5 hx hG ha kf_RX12_137 rfl dX12_book_158 ?_
                refine j_iconst hx dX12_book_161 ?_
                refine j_icmp_eq hx 167 dX12_book_162 rfl (by omega) ⟨by decide, by decide⟩ (fun h207 => ?_) (fun h207 => ?_)
                · skip
                  refine j_aload_n hx 1 dX12_book_167 rfl ?_
                  refine j_iload_n hx 2 dX12_book_168 rfl ?_
                  refine p13_41 hx hG ha kf_RX12_198 dX12_book_169 ?_
                  obtain ⟨s35, e_s35⟩ : ∃ z, z = zU s34 a 41 v124 := ⟨_, rfl⟩
                  rw [← e_s35]
                  have hS_s35 : zSK G s35 := by rw [e_s35]; exact zSK_F hS_s34 ha rfl rfl rfl (by omega)
                  refine j_iconst hx dX12_book_172 ?_
                  refine j_istore hx [(4, .int (zI 0)), (3, .int (zI v204)), (0, .ref a), (2, .int (zI v124))] dX12_book_173 (by decide) rfl ?_
                  have c175_36 : ∀ (m_c175_36 : Nat) (v208 : Int) (s37 : zS), 2147483648 - v208 < m_c175_36 → (0 ≤ v208 ∧ v208 ≤ 2147483647) → (zSK G s37) → (zFr [97] G s35 s37) → JJ X E 6 G s37 0 0 [(0, .ref a), (2, .int (zI v124)), (3, .int (zI v204)), (4, .int (zI v208))] 175 [] := by
                    intro m_c175_36
                    induction m_c175_36 with
                    | zero => intro v208 s37 hm_c175_36 fA38 hS_s37 hF_s37; exfalso; omega
                    | succ m_c175_36 ih_c175_36 => 
                      intro v208 s37 hm_c175_36 fA38 hS_s37 hF_s37
                      refine j_iload hx 3 dX12_book_175 rfl ?_
                      refine j_iconst hx dX12_book_177 ?_
                      refine j_iload_n hx 1 dX12_book_178 rfl ?_
                      refine j_imul hx (r := 2 * v124) dX12_book_179 rfl ?_
                      refine j_icmp_ge hx 203 dX12_book_180 rfl (by omega) (by omega) (fun h209 => ?_) (fun h209 => ?_)
                      · skip
                        refine j_iload_n hx 2 dX12_book_203 rfl ?_
                        have g210 : s37 a 21 = s34 a 21 := (by rw [(zFr_g hF_s37 ha (by decide)), e_s35, zU_at (Or.inr (by decide))])
                        have f211 := zf hS_s34 ha (k := 21) rfl
                        have g212 : s37 a 22 = s34 a 22 := (by rw [(zFr_g hF_s37 ha (by decide)), e_s35, zU_at (Or.inr (by decide))])
                        have f213 := zf hS_s34 ha (k := 22) rfl
                        have g214 : s37 a 23 = s34 a 23 := (by rw [(zFr_g hF_s37 ha (by decide)), e_s35, zU_at (Or.inr (by decide))])
                        have f215 := zf hS_s34 ha (k := 23) rfl
                        have g216 : s37 a 24 = s34 a 24 := (by rw [(zFr_g hF_s37 ha (by decide)), e_s35, zU_at (Or.inr (by decide))])
                        have f217 := zf hS_s34 ha (k := 24) rfl
                        have g218 : s37 a 38 = s34 a 38 := (by rw [(zFr_g hF_s37 ha (by decide)), e_s35, zU_at (Or.inr (by decide))])
                        have f219 := zf hS_s34 ha (k := 38) rfl
                        have g220 : s37 a 51 = s34 a 51 := (by rw [(zFr_g hF_s37 ha (by decide)), e_s35, zU_at (Or.inr (by decide))])
                        have f221 := zf hS_s34 ha (k := 51) rfl
                        have g222 : s37 a 52 = s34 a 52 := (by rw [(zFr_g hF_s37 ha (by decide)), e_s35, zU_at (Or.inr (by decide))])
                        have f223 := zf hS_s34 ha (k := 52) rfl
                        exact j_iret hx hq rfl (by decide) (by decide) dX12_book_204 ⟨v204, rfl, rfl, hS_s37, (zFr_t (zFr_u (zFr_t (zFr_t (zFr_t (zFr_t (zFr_u zFr_rf e_s1 ha (by decide)) hF_s5 (by decide)) hF_s7 (by decide)) hF_s33 (by decide)) hF_s34 (by decide)) e_s35 ha (by decide)) hF_s37 (by decide)), ⟨(by omega), by omega, by omega, by omega, by omega, by omega, by omega, by omega⟩⟩
                      · skip
                        refine j_aload_n hx 0 dX12_book_183 rfl ?_
                        refine g13_40 hx hG ha kf_RX12_92 dX12_book_184 ?_
                        refine j_iload hx 3 dX12_book_187 rfl ?_
                        refine j_aload_n hx 0 dX12_book_189 rfl ?_
                        refine g13_39 hx hG ha kf_RX12_89 dX12_book_190 ?_
                        refine j_iload hx 3 dX12_book_193 rfl ?_
                        have f224 := zaI (j := (v208).toNat) hS_s7 (zr (k := 39) (t2 := 96) hG ha rfl) rfl (zlen hG (zr (k := 39) (t2 := 96) hG ha rfl) (n := 24) rfl rfl) (show 0 ≤ v208 by omega) (by omega) rfl
                        refine j_iald hx hG (zr (k := 39) (t2 := 96) hG ha rfl) (by decide) rfl (zlen hG (zr (k := 39) (t2 := 96) hG ha rfl) (n := 24) rfl rfl) (by omega) (by omega) (j := (v208).toNat) rfl (v := (s7 (gP G a 39) (v208).toNat)) (by rw [(zFr_g hF_s37 (zr (k := 39) (t2 := 96) hG ha rfl) (by decide)), e_s35, zU_at (Or.inl (zne ha (zr (k := 39) (t2 := 96) hG ha rfl) (by decide))), (zFr_g hF_s34 (zr (k := 39) (t2 := 96) hG ha rfl) (by decide)), (zFr_g hF_s33 (zr (k := 39) (t2 := 96) hG ha rfl) (by decide))]) dX12_book_195 ?_
                        refine j_iast hx hG (zr (k := 40) (t2 := 97) hG ha rfl) (by decide) rfl (zlen hG (zr (k := 40) (t2 := 97) hG ha rfl) (n := 24) rfl rfl) (by omega) (by omega) (j := (v208).toNat) rfl dX12_book_196 ?_
                        obtain ⟨s41, e_s41⟩ : ∃ z, z = zU s37 (gP G a 40) (v208).toNat ((s7 (gP G a 39) (v208).toNat)) := ⟨_, rfl⟩
                        rw [← e_s41]
                        have hS_s41 : zSK G s41 := by rw [e_s41]; exact zSK_A hS_s37 (zr (k := 40) (t2 := 97) hG ha rfl) rfl rfl rfl (by omega)
                        refine j_iinc hx 3 [(4, .int (zI (v208 + 1))), (0, .ref a), (2, .int (zI v124)), (3, .int (zI v204))] dX12_book_197 rfl (by omega) (by decide) rfl ?_
                        refine j_goto hx 175 dX12_book_200 rfl ?_
                        exact j_sub [1, 2, 3, 0] [(0, .ref a), (2, .int (zI v124)), (3, .int (zI v204)), (4, .int (zI (v208 + 1)))] rfl (ih_c175_36 (v208 + 1) s41 (by omega) (by omega) hS_s41 (zFr_u (zFr_t zFr_rf hF_s37 (by decide)) e_s41 (zr (k := 40) (t2 := 97) hG ha rfl) (by decide)))
                  exact j_sub [2, 3, 1, 0] [(0, .ref a), (2, .int (zI v124)), (3, .int (zI v204)), (4, .int (zI 0))] rfl (c175_36 (2147483648 * 4) 0 s35 (by omega) (by omega) hS_s35 zFr_rf)
                · skip
                  refine j_iload_n hx 0 dX12_book_165 rfl ?_
                  have f225 := zf hS_s34 ha (k := 21) rfl
                  have f226 := zf hS_s34 ha (k := 22) rfl
                  have f227 := zf hS_s34 ha (k := 23) rfl
                  have f228 := zf hS_s34 ha (k := 24) rfl
                  have f229 := zf hS_s34 ha (k := 38) rfl
                  have f230 := zf hS_s34 ha (k := 51) rfl
                  have f231 := zf hS_s34 ha (k := 52) rfl
                  exact j_iret hx hq rfl (by decide) (by decide) dX12_book_166 ⟨v204, rfl, rfl, hS_s34, (zFr_t (zFr_t (zFr_t (zFr_t (zFr_u zFr_rf e_s1 ha (by decide)) hF_s5 (by decide)) hF_s7 (by decide)) hF_s33 (by decide)) hF_s34 (by decide)), ⟨(by omega), by omega, by omega, by omega, by omega, by omega, by omega, by omega⟩⟩
              · skip
                refine j_aload_n hx 0 dX12_book_60 rfl ?_
                have f232 := zf hS_s33 ha (k := 4) rfl
                refine g13_4 hx hG ha kf_RX12_143 rfl dX12_book_61 ?_
                refine j_istore_n hx [(3, .int (zI ((s33 a 4)))), (0, .ref a), (2, .int (zI v124))] dX12_book_64 (by decide) rfl ?_
                refine j_aload_n hx 1 dX12_book_65 rfl ?_
                refine j_iconst hx dX12_book_66 ?_
                refine j_sipush hx dX12_book_67 rfl ?_
                have f233 := zf hS_s33 ha (k := 3) rfl
                have f234 := zf hS_s33 ha (k := 5) rfl
                have f235 := zf hS_s33 ha (k := 0) rfl
                have f236 := zf hS_s33 ha (k := 7) rfl
                have f237 := zf hS_s33 ha (k := 21) rfl
                have f238 := zf hS_s33 ha (k := 22) rfl
                have f239 := zf hS_s33 ha (k := 23) rfl
                have f240 := zf hS_s33 ha (k := 24) rfl
                have f241 := zf hS_s33 ha (k := 38) rfl
                have f242 := zf hS_s33 ha (k := 51) rfl
                have f243 := zf hS_s33 ha (k := 52) rfl
                refine j_callV hx hG (c_X12_readNumber hst a 0 9999) lk_RX12_219 ha (by decide) rfl rfl rfl rfl [.int (zI 0), .int (zI 9999)] ⟨rfl, hG, hS_s33, ha, (by omega), (by omega), (by omega)⟩ rfl rfl ⟨by decide, by decide⟩ ⟨by decide, by decide⟩ (k2 := 0) (n2 := 0) rfl rfl (Nat.le_of_ble_eq_true rfl) dX12_book_70 (kIM (fun v244 s42 hS_s42 hF_s42 q245 => ?_))
                refine j_istore hx [(4, .int (zI v244)), (3, .int (zI ((s33 a 4)))), (0, .ref a), (2, .int (zI v124))] dX12_book_73 (by decide) rfl ?_
                refine j_aload_n hx 2 dX12_book_75 rfl ?_
                refine j_callV hx hG (c_X12_fine hst a) lk_RX12_166 ha (by decide) rfl rfl rfl rfl [] ⟨rfl, hG, hS_s42, ha⟩ rfl rfl ⟨by decide, by decide⟩ ⟨by decide, by decide⟩ (k2 := 0) (n2 := 0) rfl rfl (Nat.le_of_ble_eq_true rfl) dX12_book_76 (kIP (fun v246 q247 => ?_))
                refine j_if_eq hx 94 dX12_book_79 rfl (by omega) (fun h248 => ?_) (fun h248 => ?_)
                · skip
                  refine j_aload_n hx 2 dX12_book_94 rfl ?_
                  refine j_iconst hx dX12_book_95 ?_
                  refine j_aload_n hx 2 dX12_book_96 rfl ?_
                  have f249 := zf hS_s42 ha (k := 24) rfl
                  refine g13_24 hx hG ha kf_RX12_189 rfl dX12_book_97 ?_
                  refine j_iconst hx dX12_book_100 ?_
                  refine j_isub hx (r := (s42 a 24) - 1) dX12_book_101 (by omega) ?_
                  have f250 := zf hS_s42 ha (k := 4) rfl
                  have f251 := zf hS_s42 ha (k := 3) rfl
                  have f252 := zf hS_s42 ha (k := 5) rfl
                  have f253 := zf hS_s42 ha (k := 0) rfl
                  have f254 := zf hS_s42 ha (k := 7) rfl
                  have f255 := zf hS_s42 ha (k := 21) rfl
                  have f256 := zf hS_s42 ha (k := 22) rfl
                  have f257 := zf hS_s42 ha (k := 23) rfl
                  have f258 := zf hS_s42 ha (k := 38) rfl
                  have f259 := zf hS_s42 ha (k := 51) rfl
                  have f260 := zf hS_s42 ha (k := 52) rfl
                  refine j_callV hx hG (c_X12_readNumber_p hst a 0 ((s42 a 24) - 1)) lk_RX12_219 ha (by decide) rfl rfl rfl rfl [.int (zI 0), .int (zI ((s42 a 24) - 1))] ⟨rfl, hG, hS_s42, ha, (by omega), (by omega), (by omega)⟩ rfl rfl ⟨by decide, by decide⟩ ⟨by decide, by decide⟩ (k2 := 0) (n2 := 0) rfl rfl (Nat.le_of_ble_eq_true rfl) dX12_book_102 (kIM (fun v261 s43 hS_s43 hF_s43 q262 => ?_))
                  refine j_istore hx [(5, .int (zI v261)), (4, .int (zI v244)), (3, .int (zI ((s33 a 4)))), (0, .ref a), (2, .int (zI v124))] dX12_book_105 (by decide) rfl ?_
                  refine j_aload_n hx 3 dX12_book_107 rfl ?_
                  refine j_bipush hx dX12_book_108 rfl ?_
                  have f263 := zf hS_s43 ha (k := 4) rfl
                  have f264 := zf hS_s43 ha (k := 3) rfl
                  have f265 := zf hS_s43 ha (k := 5) rfl
                  have f266 := zf hS_s43 ha (k := 0) rfl
                  have f267 := zf hS_s43 ha (k := 7) rfl
                  have f268 := zf hS_s43 ha (k := 21) rfl
                  have f269 := zf hS_s43 ha (k := 22) rfl
                  have f270 := zf hS_s43 ha (k := 23) rfl
                  have f271 := zf hS_s43 ha (k := 24) rfl
                  have f272 := zf hS_s43 ha (k := 38) rfl
                  have f273 := zf hS_s43 ha (k := 51) rfl
                  have f274 := zf hS_s43 ha (k := 52) rfl
                  refine j_callV hx hG (c_X12_sign hst a 59) lk_RX12_262 ha (by decide) rfl rfl rfl rfl [.int (zI 59)] ⟨rfl, hG, hS_s43, ha, (by omega), (by omega)⟩ rfl rfl ⟨by decide, by decide⟩ ⟨by decide, by decide⟩ (k2 := 0) (n2 := 0) rfl rfl (Nat.le_of_ble_eq_true rfl) dX12_book_110 (kVM (fun s44 hS_s44 hF_s44 q276 => ?_))
                  refine j_aload_n hx 3 dX12_book_113 rfl ?_
                  refine j_callV hx hG (c_X12_fine hst a) lk_RX12_166 ha (by decide) rfl rfl rfl rfl [] ⟨rfl, hG, hS_s44, ha⟩ rfl rfl ⟨by decide, by decide⟩ ⟨by decide, by decide⟩ (k2 := 0) (n2 := 0) rfl rfl (Nat.le_of_ble_eq_true rfl) dX12_book_114 (kIP (fun v277 q278 => ?_))
                  refine j_if_ne hx 123 dX12_book_117 rfl (by omega) (fun h279 => ?_) (fun h279 => ?_)
                  · skip
                    refine j_aload_n hx 3 dX12_book_123 rfl ?_
                    refine g13_39 hx hG ha kf_RX12_89 dX12_book_124 ?_
                    refine j_iconst hx dX12_book_127 ?_
                    refine j_iload_n hx 4 dX12_book_128 rfl ?_
                    refine j_imul hx (r := 2 * v124) dX12_book_129 rfl ?_
                    refine j_iload hx 1 dX12_book_130 rfl ?_
                    refine j_iast hx hG (zr (k := 39) (t2 := 96) hG ha rfl) (by decide) rfl (zlen hG (zr (k := 39) (t2 := 96) hG ha rfl) (n := 24) rfl rfl) (by omega) (by omega) (j := (2 * v124).toNat) rfl dX12_book_132 ?_
                    obtain ⟨s45, e_s45⟩ : ∃ z, z = zU s44 (gP G a 39) (2 * v124).toNat v244 := ⟨_, rfl⟩
                    rw [← e_s45]
                    have hS_s45 : zSK G s45 := by rw [e_s45]; exact zSK_A hS_s44 (zr (k := 39) (t2 := 96) hG ha rfl) rfl rfl rfl (by omega)
                    refine j_aload_n hx 3 dX12_book_133 rfl ?_
                    refine g13_39 hx hG ha kf_RX12_89 dX12_book_134 ?_
                    refine j_iconst hx dX12_book_137 ?_
                    refine j_iload_n hx 4 dX12_book_138 rfl ?_
                    refine j_imul hx (r := 2 * v124) dX12_book_139 rfl ?_
                    refine j_iconst hx dX12_book_140 ?_
                    refine j_iadd hx (r := 2 * v124 + 1) dX12_book_141 (by omega) ?_
                    refine j_iload hx 0 dX12_book_142 rfl ?_
                    refine j_iast hx hG (zr (k := 39) (t2 := 96) hG ha rfl) (by decide) rfl (zlen hG (zr (k := 39) (t2 := 96) hG ha rfl) (n := 24) rfl rfl) (by omega) (by omega) (j := (2 * v124 + 1).toNat) rfl dX12_book_144 ?_
                    obtain ⟨s46, e_s46⟩ : ∃ z, z = zU s45 (gP G a 39) (2 * v124 + 1).toNat v261 := ⟨_, rfl⟩
                    rw [← e_s46]
                    have hS_s46 : zSK G s46 := by rw [e_s46]; exact zSK_A hS_s45 (zr (k := 39) (t2 := 96) hG ha rfl) rfl rfl rfl (by omega)
                    refine j_iinc hx 4 [(2, .int (zI (v124 + 1))), (5, .int (zI v261)), (4, .int (zI v244)), (3, .int (zI ((s33 a 4)))), (0, .ref a)] dX12_book_145 rfl (by omega) (by decide) rfl ?_
                    refine j_goto hx 46 dX12_book_148 rfl ?_
                    have g280 : s46 a 4 = s44 a 4 := (by rw [e_s46, zU_at (Or.inl (zne (zr (k := 39) (t2 := 96) hG ha rfl) ha (by decide))), e_s45, zU_at (Or.inl (zne (zr (k := 39) (t2 := 96) hG ha rfl) ha (by decide)))])
                    have f281 := zf hS_s44 ha (k := 4) rfl
                    have g282 : s46 a 5 = s44 a 5 := (by rw [e_s46, zU_at (Or.inl (zne (zr (k := 39) (t2 := 96) hG ha rfl) ha (by decide))), e_s45, zU_at (Or.inl (zne (zr (k := 39) (t2 := 96) hG ha rfl) ha (by decide)))])
                    have f283 := zf hS_s44 ha (k := 5) rfl
                    have g284 : s46 a 0 = s44 a 0 := (by rw [e_s46, zU_at (Or.inl (zne (zr (k := 39) (t2 := 96) hG ha rfl) ha (by decide))), e_s45, zU_at (Or.inl (zne (zr (k := 39) (t2 := 96) hG ha rfl) ha (by decide)))])
                    have f285 := zf hS_s44 ha (k := 0) rfl
                    have g286 : s46 a 3 = s44 a 3 := (by rw [e_s46, zU_at (Or.inl (zne (zr (k := 39) (t2 := 96) hG ha rfl) ha (by decide))), e_s45, zU_at (Or.inl (zne (zr (k := 39) (t2 := 96) hG ha rfl) ha (by decide)))])
                    have f287 := zf hS_s44 ha (k := 3) rfl
                    have g288 : s46 a 7 = s44 a 7 := (by rw [e_s46, zU_at (Or.inl (zne (zr (k := 39) (t2 := 96) hG ha rfl) ha (by decide))), e_s45, zU_at (Or.inl (zne (zr (k := 39) (t2 := 96) hG ha rfl) ha (by decide)))])
                    have f289 := zf hS_s44 ha (k := 7) rfl
                    have g290 : s46 a 21 = s44 a 21 := (by rw [e_s46, zU_at (Or.inl (zne (zr (k := 39) (t2 := 96) hG ha rfl) ha (by decide))), e_s45, zU_at (Or.inl (zne (zr (k := 39) (t2 := 96) hG ha rfl) ha (by decide)))])
                    have f291 := zf hS_s44 ha (k := 21) rfl
                    have g292 : s46 a 22 = s44 a 22 := (by rw [e_s46, zU_at (Or.inl (zne (zr (k := 39) (t2 := 96) hG ha rfl) ha (by decide))), e_s45, zU_at (Or.inl (zne (zr (k := 39) (t2 := 96) hG ha rfl) ha (by decide)))])
                    have f293 := zf hS_s44 ha (k := 22) rfl
                    have g294 : s46 a 23 = s44 a 23 := (by rw [e_s46, zU_at (Or.inl (zne (zr (k := 39) (t2 := 96) hG ha rfl) ha (by decide))), e_s45, zU_at (Or.inl (zne (zr (k := 39) (t2 := 96) hG ha rfl) ha (by decide)))])
                    have f295 := zf hS_s44 ha (k := 23) rfl
                    have g296 : s46 a 24 = s44 a 24 := (by rw [e_s46, zU_at (Or.inl (zne (zr (k := 39) (t2 := 96) hG ha rfl) ha (by decide))), e_s45, zU_at (Or.inl (zne (zr (k := 39) (t2 := 96) hG ha rfl) ha (by decide)))])
                    have f297 := zf hS_s44 ha (k := 24) rfl
                    have g298 : s46 a 38 = s44 a 38 := (by rw [e_s46, zU_at (Or.inl (zne (zr (k := 39) (t2 := 96) hG ha rfl) ha (by decide))), e_s45, zU_at (Or.inl (zne (zr (k := 39) (t2 := 96) hG ha rfl) ha (by decide)))])
                    have f299 := zf hS_s44 ha (k := 38) rfl
                    have g300 : s46 a 51 = s44 a 51 := (by rw [e_s46, zU_at (Or.inl (zne (zr (k := 39) (t2 := 96) hG ha rfl) ha (by decide))), e_s45, zU_at (Or.inl (zne (zr (k := 39) (t2 := 96) hG ha rfl) ha (by decide)))])
                    have f301 := zf hS_s44 ha (k := 51) rfl
                    have g302 : s46 a 52 = s44 a 52 := (by rw [e_s46, zU_at (Or.inl (zne (zr (k := 39) (t2 := 96) hG ha rfl) ha (by decide))), e_s45, zU_at (Or.inl (zne (zr (k := 39) (t2 := 96) hG ha rfl) ha (by decide)))])
                    have f303 := zf hS_s44 ha (k := 52) rfl
                    exact j_sub [4, 0] [(0, .ref a), (2, .int (zI (v124 + 1)))] rfl (ih_c46_6 (v124 + 1) s46 (by omega) (by omega) hS_s46 (zFr_u (zFr_u (zFr_t (zFr_t (zFr_t (zFr_t (zFr_t zFr_rf hF_s7 (by decide)) hF_s33 (by decide)) hF_s42 (by decide)) hF_s43 (by decide)) hF_s44 (by decide)) e_s45 (zr (k := 39) (t2 := 96) hG ha rfl) (by decide)) e_s46 (zr (k := 39) (t2 := 96) hG ha rfl) (by decide)) (by omega) (by omega) (by omega) (by omega) (by omega) (by omega) (by omega) (by omega) (by omega) (by omega) (by omega) (by omega) (by omega) (by omega))
                  · skip
                    refine j_goto hx 151 dX12_book_120 rfl ?_
                    refine j_aload_n hx 3 dX12_book_151 rfl ?_
                    refine j_iload_n hx 4 dX12_book_152 rfl ?_
                    have f304 := zf hS_s44 ha (k := 0) rfl
                    have f305 := zf hS_s44 ha (k := 3) rfl
                    have f306 := zf hS_s44 ha (k := 4) rfl
                    have f307 := zf hS_s44 ha (k := 5) rfl
                    have f308 := zf hS_s44 ha (k := 7) rfl
                    have f309 := zf hS_s44 ha (k := 21) rfl
                    have f310 := zf hS_s44 ha (k := 22) rfl
                    have f311 := zf hS_s44 ha (k := 23) rfl
                    have f312 := zf hS_s44 ha (k := 24) rfl
                    have f313 := zf hS_s44 ha (k := 38) rfl
                    have f314 := zf hS_s44 ha (k := 51) rfl
                    have f315 := zf hS_s44 ha (k := 52) rfl
                    refine j_callV hx hG (c_X12_result hst a v124) lk_RX12_265 ha (by decide) rfl rfl rfl rfl [.int (zI v124)] ⟨rfl, hG, hS_s44, ha, (by omega)⟩ rfl rfl ⟨by decide, by decide⟩ ⟨by decide, by decide⟩ (k2 := 0) (n2 := 0) rfl rfl (Nat.le_of_ble_eq_true rfl) dX12_book_153 (kIM (fun v316 s47 hS_s47 hF_s47 q317 => ?_))
                    refine j_istore_n hx [(3, .int (zI v316)), (5, .int (zI v261)), (4, .int (zI v244)), (0, .ref a), (2, .int (zI v124))] dX12_book_156 (by decide) rfl ?_
                    refine j_aload_n hx 3 dX12_book_157 rfl ?_
                    have f318 := zf hS_s47 ha (k := 5) rfl
                    refine g13_5 hx hG ha kf_RX12_137 rfl dX12_book_158 ?_
                    refine j_iconst hx dX12_book_161 ?_
                    refine j_icmp_eq hx 167 dX12_book_162 rfl (by omega) ⟨by decide, by decide⟩ (fun h319 => ?_) (fun h319 => ?_)
                    · skip
                      refine j_aload_n hx 3 dX12_book_167 rfl ?_
                      refine j_iload_n hx 4 dX12_book_168 rfl ?_
                      refine p13_41 hx hG ha kf_RX12_198 dX12_book_169 ?_
                      obtain ⟨s48, e_s48⟩ : ∃ z, z = zU s47 a 41 v124 := ⟨_, rfl⟩
                      rw [← e_s48]
                      have hS_s48 : zSK G s48 := by rw [e_s48]; exact zSK_F hS_s47 ha rfl rfl rfl (by omega)
                      refine j_iconst hx dX12_book_172 ?_
                      refine j_istore hx [(4, .int (zI 0)), (3, .int (zI v316)), (5, .int (zI v261)), (0, .ref a), (2, .int (zI v124))] dX12_book_173 (by decide) rfl ?_
                      have c175_49 : ∀ (m_c175_49 : Nat) (v320 : Int) (s50 : zS), 2147483648 - v320 < m_c175_49 → (0 ≤ v320 ∧ v320 ≤ 2147483647) → (zSK G s50) → (zFr [97] G s48 s50) → JJ X E 6 G s50 0 0 [(0, .ref a), (2, .int (zI v124)), (3, .int (zI v316)), (4, .int (zI v320))] 175 [] := by
                        intro m_c175_49
                        induction m_c175_49 with
                        | zero => intro v320 s50 hm_c175_49 fA51 hS_s50 hF_s50; exfalso; omega
                        | succ m_c175_49 ih_c175_49 => 
                          intro v320 s50 hm_c175_49 fA51 hS_s50 hF_s50
                          refine j_iload hx 3 dX12_book_175 rfl ?_
                          refine j_iconst hx dX12_book_177 ?_
                          refine j_iload_n hx 1 dX12_book_178 rfl ?_
                          refine j_imul hx (r := 2 * v124) dX12_book_179 rfl ?_
                          refine j_icmp_ge hx 203 dX12_book_180 rfl (by omega) (by omega) (fun h321 => ?_) (fun h321 => ?_)
                          · skip
                            refine j_iload_n hx 2 dX12_book_203 rfl ?_
                            have g322 : s50 a 21 = s47 a 21 := (by rw [(zFr_g hF_s50 ha (by decide)), e_s48, zU_at (Or.inr (by decide))])
                            have f323 := zf hS_s47 ha (k := 21) rfl
                            have g324 : s50 a 22 = s47 a 22 := (by rw [(zFr_g hF_s50 ha (by decide)), e_s48, zU_at (Or.inr (by decide))])
                            have f325 := zf hS_s47 ha (k := 22) rfl
                            have g326 : s50 a 23 = s47 a 23 := (by rw [(zFr_g hF_s50 ha (by decide)), e_s48, zU_at (Or.inr (by decide))])
                            have f327 := zf hS_s47 ha (k := 23) rfl
                            have g328 : s50 a 24 = s47 a 24 := (by rw [(zFr_g hF_s50 ha (by decide)), e_s48, zU_at (Or.inr (by decide))])
                            have f329 := zf hS_s47 ha (k := 24) rfl
                            have g330 : s50 a 38 = s47 a 38 := (by rw [(zFr_g hF_s50 ha (by decide)), e_s48, zU_at (Or.inr (by decide))])
                            have f331 := zf hS_s47 ha (k := 38) rfl
                            have g332 : s50 a 51 = s47 a 51 := (by rw [(zFr_g hF_s50 ha (by decide)), e_s48, zU_at (Or.inr (by decide))])
                            have f333 := zf hS_s47 ha (k := 51) rfl
                            have g334 : s50 a 52 = s47 a 52 := (by rw [(zFr_g hF_s50 ha (by decide)), e_s48, zU_at (Or.inr (by decide))])
                            have f335 := zf hS_s47 ha (k := 52) rfl
                            exact j_iret hx hq rfl (by decide) (by decide) dX12_book_204 ⟨v316, rfl, rfl, hS_s50, (zFr_t (zFr_u (zFr_t (zFr_t (zFr_t (zFr_t (zFr_t (zFr_t (zFr_t (zFr_u zFr_rf e_s1 ha (by decide)) hF_s5 (by decide)) hF_s7 (by decide)) hF_s33 (by decide)) hF_s42 (by decide)) hF_s43 (by decide)) hF_s44 (by decide)) hF_s47 (by decide)) e_s48 ha (by decide)) hF_s50 (by decide)), ⟨(by omega), by omega, by omega, by omega, by omega, by omega, by omega, by omega⟩⟩
                          · skip
                            refine j_aload_n hx 0 dX12_book_183 rfl ?_
                            refine g13_40 hx hG ha kf_RX12_92 dX12_book_184 ?_
                            refine j_iload hx 3 dX12_book_187 rfl ?_
                            refine j_aload_n hx 0 dX12_book_189 rfl ?_
                            refine g13_39 hx hG ha kf_RX12_89 dX12_book_190 ?_
                            refine j_iload hx 3 dX12_book_193 rfl ?_
                            have f336 := zaI (j := (v320).toNat) hS_s7 (zr (k := 39) (t2 := 96) hG ha rfl) rfl (zlen hG (zr (k := 39) (t2 := 96) hG ha rfl) (n := 24) rfl rfl) (show 0 ≤ v320 by omega) (by omega) rfl
                            refine j_iald hx hG (zr (k := 39) (t2 := 96) hG ha rfl) (by decide) rfl (zlen hG (zr (k := 39) (t2 := 96) hG ha rfl) (n := 24) rfl rfl) (by omega) (by omega) (j := (v320).toNat) rfl (v := (s7 (gP G a 39) (v320).toNat)) (by rw [(zFr_g hF_s50 (zr (k := 39) (t2 := 96) hG ha rfl) (by decide)), e_s48, zU_at (Or.inl (zne ha (zr (k := 39) (t2 := 96) hG ha rfl) (by decide))), (zFr_g hF_s47 (zr (k := 39) (t2 := 96) hG ha rfl) (by decide)), (zFr_g hF_s44 (zr (k := 39) (t2 := 96) hG ha rfl) (by decide)), (zFr_g hF_s43 (zr (k := 39) (t2 := 96) hG ha rfl) (by decide)), (zFr_g hF_s42 (zr (k := 39) (t2 := 96) hG ha rfl) (by decide)), (zFr_g hF_s33 (zr (k := 39) (t2 := 96) hG ha rfl) (by decide))]) dX12_book_195 ?_
                            refine j_iast hx hG (zr (k := 40) (t2 := 97) hG ha rfl) (by decide) rfl (zlen hG (zr (k := 40) (t2 := 97) hG ha rfl) (n := 24) rfl rfl) (by omega) (by omega) (j := (v320).toNat) rfl dX12_book_196 ?_
                            obtain ⟨s54, e_s54⟩ : ∃ z, z = zU s50 (gP G a 40) (v320).toNat ((s7 (gP G a 39) (v320).toNat)) := ⟨_, rfl⟩
                            rw [← e_s54]
                            have hS_s54 : zSK G s54 := by rw [e_s54]; exact zSK_A hS_s50 (zr (k := 40) (t2 := 97) hG ha rfl) rfl rfl rfl (by omega)
                            refine j_iinc hx 3 [(4, .int (zI (v320 + 1))), (0, .ref a), (2, .int (zI v124)), (3, .int (zI v316))] dX12_book_197 rfl (by omega) (by decide) rfl ?_
                            refine j_goto hx 175 dX12_book_200 rfl ?_
                            exact j_sub [1, 2, 3, 0] [(0, .ref a), (2, .int (zI v124)), (3, .int (zI v316)), (4, .int (zI (v320 + 1)))] rfl (ih_c175_49 (v320 + 1) s54 (by omega) (by omega) hS_s54 (zFr_u (zFr_t zFr_rf hF_s50 (by decide)) e_s54 (zr (k := 40) (t2 := 97) hG ha rfl) (by decide)))
                      exact j_sub [3, 4, 1, 0] [(0, .ref a), (2, .int (zI v124)), (3, .int (zI v316)), (4, .int (zI 0))] rfl (c175_49 (2147483648 * 4) 0 s48 (by omega) (by omega) hS_s48 zFr_rf)
                    · skip
                      refine j_iload_n hx 0 dX12_book_165 rfl ?_
                      have f337 := zf hS_s47 ha (k := 21) rfl
                      have f338 := zf hS_s47 ha (k := 22) rfl
                      have f339 := zf hS_s47 ha (k := 23) rfl
                      have f340 := zf hS_s47 ha (k := 24) rfl
                      have f341 := zf hS_s47 ha (k := 38) rfl
                      have f342 := zf hS_s47 ha (k := 51) rfl
                      have f343 := zf hS_s47 ha (k := 52) rfl
                      exact j_iret hx hq rfl (by decide) (by decide) dX12_book_166 ⟨v316, rfl, rfl, hS_s47, (zFr_t (zFr_t (zFr_t (zFr_t (zFr_t (zFr_t (zFr_t (zFr_u zFr_rf e_s1 ha (by decide)) hF_s5 (by decide)) hF_s7 (by decide)) hF_s33 (by decide)) hF_s42 (by decide)) hF_s43 (by decide)) hF_s44 (by decide)) hF_s47 (by decide)), ⟨(by omega), by omega, by omega, by omega, by omega, by omega, by omega, by omega⟩⟩
                · skip
                  refine j_iload_n hx 3 dX12_book_82 rfl ?_
                  refine j_bipush hx dX12_book_83 rfl ?_
                  refine j_icmp_ne hx 94 dX12_book_85 rfl (by omega) ⟨by decide, by decide⟩ (fun h344 => ?_) (fun h344 => ?_)
                  · skip
                    refine j_aload_n hx 2 dX12_book_94 rfl ?_
                    refine j_iconst hx dX12_book_95 ?_
                    refine j_aload_n hx 2 dX12_book_96 rfl ?_
                    have f345 := zf hS_s42 ha (k := 24) rfl
                    refine g13_24 hx hG ha kf_RX12_189 rfl dX12_book_97 ?_
                    refine j_iconst hx dX12_book_100 ?_
                    refine j_isub hx (r := (s42 a 24) - 1) dX12_book_101 (by omega) ?_
                    have f346 := zf hS_s42 ha (k := 4) rfl
                    have f347 := zf hS_s42 ha (k := 3) rfl
                    have f348 := zf hS_s42 ha (k := 5) rfl
                    have f349 := zf hS_s42 ha (k := 0) rfl
                    have f350 := zf hS_s42 ha (k := 7) rfl
                    have f351 := zf hS_s42 ha (k := 21) rfl
                    have f352 := zf hS_s42 ha (k := 22) rfl
                    have f353 := zf hS_s42 ha (k := 23) rfl
                    have f354 := zf hS_s42 ha (k := 38) rfl
                    have f355 := zf hS_s42 ha (k := 51) rfl
                    have f356 := zf hS_s42 ha (k := 52) rfl
                    refine j_callV hx hG (c_X12_readNumber_p hst a 0 ((s42 a 24) - 1)) lk_RX12_219 ha (by decide) rfl rfl rfl rfl [.int (zI 0), .int (zI ((s42 a 24) - 1))] ⟨rfl, hG, hS_s42, ha, (by omega), (by omega), (by omega)⟩ rfl rfl ⟨by decide, by decide⟩ ⟨by decide, by decide⟩ (k2 := 0) (n2 := 0) rfl rfl (Nat.le_of_ble_eq_true rfl) dX12_book_102 (kIM (fun v357 s55 hS_s55 hF_s55 q358 => ?_))
                    refine j_istore hx [(5, .int (zI v357)), (4, .int (zI v244)), (3, .int (zI ((s33 a 4)))), (0, .ref a), (2, .int (zI v124))] dX12_book_105 (by decide) rfl ?_
                    refine j_aload_n hx 3 dX12_book_107 rfl ?_
                    refine j_bipush hx dX12_book_108 rfl ?_
                    have f359 := zf hS_s55 ha (k := 4) rfl
                    have f360 := zf hS_s55 ha (k := 3) rfl
                    have f361 := zf hS_s55 ha (k := 5) rfl
                    have f362 := zf hS_s55 ha (k := 0) rfl
                    have f363 := zf hS_s55 ha (k := 7) rfl
                    have f364 := zf hS_s55 ha (k := 21) rfl
                    have f365 := zf hS_s55 ha (k := 22) rfl
                    have f366 := zf hS_s55 ha (k := 23) rfl
                    have f367 := zf hS_s55 ha (k := 24) rfl
                    have f368 := zf hS_s55 ha (k := 38) rfl
                    have f369 := zf hS_s55 ha (k := 51) rfl
                    have f370 := zf hS_s55 ha (k := 52) rfl
                    refine j_callV hx hG (c_X12_sign hst a 59) lk_RX12_262 ha (by decide) rfl rfl rfl rfl [.int (zI 59)] ⟨rfl, hG, hS_s55, ha, (by omega), (by omega)⟩ rfl rfl ⟨by decide, by decide⟩ ⟨by decide, by decide⟩ (k2 := 0) (n2 := 0) rfl rfl (Nat.le_of_ble_eq_true rfl) dX12_book_110 (kVM (fun s56 hS_s56 hF_s56 q372 => ?_))
                    refine j_aload_n hx 3 dX12_book_113 rfl ?_
                    refine j_callV hx hG (c_X12_fine hst a) lk_RX12_166 ha (by decide) rfl rfl rfl rfl [] ⟨rfl, hG, hS_s56, ha⟩ rfl rfl ⟨by decide, by decide⟩ ⟨by decide, by decide⟩ (k2 := 0) (n2 := 0) rfl rfl (Nat.le_of_ble_eq_true rfl) dX12_book_114 (kIP (fun v373 q374 => ?_))
                    refine j_if_ne hx 123 dX12_book_117 rfl (by omega) (fun h375 => ?_) (fun h375 => ?_)
                    · skip
                      refine j_aload_n hx 3 dX12_book_123 rfl ?_
                      refine g13_39 hx hG ha kf_RX12_89 dX12_book_124 ?_
                      refine j_iconst hx dX12_book_127 ?_
                      refine j_iload_n hx 4 dX12_book_128 rfl ?_
                      refine j_imul hx (r := 2 * v124) dX12_book_129 rfl ?_
                      refine j_iload hx 1 dX12_book_130 rfl ?_
                      refine j_iast hx hG (zr (k := 39) (t2 := 96) hG ha rfl) (by decide) rfl (zlen hG (zr (k := 39) (t2 := 96) hG ha rfl) (n := 24) rfl rfl) (by omega) (by omega) (j := (2 * v124).toNat) rfl dX12_book_132 ?_
                      obtain ⟨s57, e_s57⟩ : ∃ z, z = zU s56 (gP G a 39) (2 * v124).toNat v244 := ⟨_, rfl⟩
                      rw [← e_s57]
                      have hS_s57 : zSK G s57 := by rw [e_s57]; exact zSK_A hS_s56 (zr (k := 39) (t2 := 96) hG ha rfl) rfl rfl rfl (by omega)
                      refine j_aload_n hx 3 dX12_book_133 rfl ?_
                      refine g13_39 hx hG ha kf_RX12_89 dX12_book_134 ?_
                      refine j_iconst hx dX12_book_137 ?_
                      refine j_iload_n hx 4 dX12_book_138 rfl ?_
                      refine j_imul hx (r := 2 * v124) dX12_book_139 rfl ?_
                      refine j_iconst hx dX12_book_140 ?_
                      refine j_iadd hx (r := 2 * v124 + 1) dX12_book_141 (by omega) ?_
                      refine j_iload hx 0 dX12_book_142 rfl ?_
                      refine j_iast hx hG (zr (k := 39) (t2 := 96) hG ha rfl) (by decide) rfl (zlen hG (zr (k := 39) (t2 := 96) hG ha rfl) (n := 24) rfl rfl) (by omega) (by omega) (j := (2 * v124 + 1).toNat) rfl dX12_book_144 ?_
                      obtain ⟨s58, e_s58⟩ : ∃ z, z = zU s57 (gP G a 39) (2 * v124 + 1).toNat v357 := ⟨_, rfl⟩
                      rw [← e_s58]
                      have hS_s58 : zSK G s58 := by rw [e_s58]; exact zSK_A hS_s57 (zr (k := 39) (t2 := 96) hG ha rfl) rfl rfl rfl (by omega)
                      refine j_iinc hx 4 [(2, .int (zI (v124 + 1))), (5, .int (zI v357)), (4, .int (zI v244)), (3, .int (zI ((s33 a 4)))), (0, .ref a)] dX12_book_145 rfl (by omega) (by decide) rfl ?_
                      refine j_goto hx 46 dX12_book_148 rfl ?_
                      have g376 : s58 a 4 = s56 a 4 := (by rw [e_s58, zU_at (Or.inl (zne (zr (k := 39) (t2 := 96) hG ha rfl) ha (by decide))), e_s57, zU_at (Or.inl (zne (zr (k := 39) (t2 := 96) hG ha rfl) ha (by decide)))])
                      have f377 := zf hS_s56 ha (k := 4) rfl
                      have g378 : s58 a 5 = s56 a 5 := (by rw [e_s58, zU_at (Or.inl (zne (zr (k := 39) (t2 := 96) hG ha rfl) ha (by decide))), e_s57, zU_at (Or.inl (zne (zr (k := 39) (t2 := 96) hG ha rfl) ha (by decide)))])
                      have f379 := zf hS_s56 ha (k := 5) rfl
                      have g380 : s58 a 0 = s56 a 0 := (by rw [e_s58, zU_at (Or.inl (zne (zr (k := 39) (t2 := 96) hG ha rfl) ha (by decide))), e_s57, zU_at (Or.inl (zne (zr (k := 39) (t2 := 96) hG ha rfl) ha (by decide)))])
                      have f381 := zf hS_s56 ha (k := 0) rfl
                      have g382 : s58 a 3 = s56 a 3 := (by rw [e_s58, zU_at (Or.inl (zne (zr (k := 39) (t2 := 96) hG ha rfl) ha (by decide))), e_s57, zU_at (Or.inl (zne (zr (k := 39) (t2 := 96) hG ha rfl) ha (by decide)))])
                      have f383 := zf hS_s56 ha (k := 3) rfl
                      have g384 : s58 a 7 = s56 a 7 := (by rw [e_s58, zU_at (Or.inl (zne (zr (k := 39) (t2 := 96) hG ha rfl) ha (by decide))), e_s57, zU_at (Or.inl (zne (zr (k := 39) (t2 := 96) hG ha rfl) ha (by decide)))])
                      have f385 := zf hS_s56 ha (k := 7) rfl
                      have g386 : s58 a 21 = s56 a 21 := (by rw [e_s58, zU_at (Or.inl (zne (zr (k := 39) (t2 := 96) hG ha rfl) ha (by decide))), e_s57, zU_at (Or.inl (zne (zr (k := 39) (t2 := 96) hG ha rfl) ha (by decide)))])
                      have f387 := zf hS_s56 ha (k := 21) rfl
                      have g388 : s58 a 22 = s56 a 22 := (by rw [e_s58, zU_at (Or.inl (zne (zr (k := 39) (t2 := 96) hG ha rfl) ha (by decide))), e_s57, zU_at (Or.inl (zne (zr (k := 39) (t2 := 96) hG ha rfl) ha (by decide)))])
                      have f389 := zf hS_s56 ha (k := 22) rfl
                      have g390 : s58 a 23 = s56 a 23 := (by rw [e_s58, zU_at (Or.inl (zne (zr (k := 39) (t2 := 96) hG ha rfl) ha (by decide))), e_s57, zU_at (Or.inl (zne (zr (k := 39) (t2 := 96) hG ha rfl) ha (by decide)))])
                      have f391 := zf hS_s56 ha (k := 23) rfl
                      have g392 : s58 a 24 = s56 a 24 := (by rw [e_s58, zU_at (Or.inl (zne (zr (k := 39) (t2 := 96) hG ha rfl) ha (by decide))), e_s57, zU_at (Or.inl (zne (zr (k := 39) (t2 := 96) hG ha rfl) ha (by decide)))])
                      have f393 := zf hS_s56 ha (k := 24) rfl
                      have g394 : s58 a 38 = s56 a 38 := (by rw [e_s58, zU_at (Or.inl (zne (zr (k := 39) (t2 := 96) hG ha rfl) ha (by decide))), e_s57, zU_at (Or.inl (zne (zr (k := 39) (t2 := 96) hG ha rfl) ha (by decide)))])
                      have f395 := zf hS_s56 ha (k := 38) rfl
                      have g396 : s58 a 51 = s56 a 51 := (by rw [e_s58, zU_at (Or.inl (zne (zr (k := 39) (t2 := 96) hG ha rfl) ha (by decide))), e_s57, zU_at (Or.inl (zne (zr (k := 39) (t2 := 96) hG ha rfl) ha (by decide)))])
                      have f397 := zf hS_s56 ha (k := 51) rfl
                      have g398 : s58 a 52 = s56 a 52 := (by rw [e_s58, zU_at (Or.inl (zne (zr (k := 39) (t2 := 96) hG ha rfl) ha (by decide))), e_s57, zU_at (Or.inl (zne (zr (k := 39) (t2 := 96) hG ha rfl) ha (by decide)))])
                      have f399 := zf hS_s56 ha (k := 52) rfl
                      exact j_sub [4, 0] [(0, .ref a), (2, .int (zI (v124 + 1)))] rfl (ih_c46_6 (v124 + 1) s58 (by omega) (by omega) hS_s58 (zFr_u (zFr_u (zFr_t (zFr_t (zFr_t (zFr_t (zFr_t zFr_rf hF_s7 (by decide)) hF_s33 (by decide)) hF_s42 (by decide)) hF_s55 (by decide)) hF_s56 (by decide)) e_s57 (zr (k := 39) (t2 := 96) hG ha rfl) (by decide)) e_s58 (zr (k := 39) (t2 := 96) hG ha rfl) (by decide)) (by omega) (by omega) (by omega) (by omega) (by omega) (by omega) (by omega) (by omega) (by omega) (by omega) (by omega) (by omega) (by omega) (by omega))
                    · skip
                      refine j_goto hx 151 dX12_book_120 rfl ?_
                      refine j_aload_n hx 3 dX12_book_151 rfl ?_
                      refine j_iload_n hx 4 dX12_book_152 rfl ?_
                      have f400 := zf hS_s56 ha (k := 0) rfl
                      have f401 := zf hS_s56 ha (k := 3) rfl
                      have f402 := zf hS_s56 ha (k := 4) rfl
                      have f403 := zf hS_s56 ha (k := 5) rfl
                      have f404 := zf hS_s56 ha (k := 7) rfl
                      have f405 := zf hS_s56 ha (k := 21) rfl
                      have f406 := zf hS_s56 ha (k := 22) rfl
                      have f407 := zf hS_s56 ha (k := 23) rfl
                      have f408 := zf hS_s56 ha (k := 24) rfl
                      have f409 := zf hS_s56 ha (k := 38) rfl
                      have f410 := zf hS_s56 ha (k := 51) rfl
                      have f411 := zf hS_s56 ha (k := 52) rfl
                      refine j_callV hx hG (c_X12_result hst a v124) lk_RX12_265 ha (by decide) rfl rfl rfl rfl [.int (zI v124)] ⟨rfl, hG, hS_s56, ha, (by omega)⟩ rfl rfl ⟨by decide, by decide⟩ ⟨by decide, by decide⟩ (k2 := 0) (n2 := 0) rfl rfl (Nat.le_of_ble_eq_true rfl) dX12_book_153 (kIM (fun v412 s59 hS_s59 hF_s59 q413 => ?_))
                      refine j_istore_n hx [(3, .int (zI v412)), (5, .int (zI v357)), (4, .int (zI v244)), (0, .ref a), (2, .int (zI v124))] dX12_book_156 (by decide) rfl ?_
                      refine j_aload_n hx 3 dX12_book_157 rfl ?_
                      have f414 := zf hS_s59 ha (k := 5) rfl
                      refine g13_5 hx hG ha kf_RX12_137 rfl dX12_book_158 ?_
                      refine j_iconst hx dX12_book_161 ?_
                      refine j_icmp_eq hx 167 dX12_book_162 rfl (by omega) ⟨by decide, by decide⟩ (fun h415 => ?_) (fun h415 => ?_)
                      · skip
                        refine j_aload_n hx 3 dX12_book_167 rfl ?_
                        refine j_iload_n hx 4 dX12_book_168 rfl ?_
                        refine p13_41 hx hG ha kf_RX12_198 dX12_book_169 ?_
                        obtain ⟨s60, e_s60⟩ : ∃ z, z = zU s59 a 41 v124 := ⟨_, rfl⟩
                        rw [← e_s60]
                        have hS_s60 : zSK G s60 := by rw [e_s60]; exact zSK_F hS_s59 ha rfl rfl rfl (by omega)
                        refine j_iconst hx dX12_book_172 ?_
                        refine j_istore hx [(4, .int (zI 0)), (3, .int (zI v412)), (5, .int (zI v357)), (0, .ref a), (2, .int (zI v124))] dX12_book_173 (by decide) rfl ?_
                        have c175_61 : ∀ (m_c175_61 : Nat) (v416 : Int) (s62 : zS), 2147483648 - v416 < m_c175_61 → (0 ≤ v416 ∧ v416 ≤ 2147483647) → (zSK G s62) → (zFr [97] G s60 s62) → JJ X E 6 G s62 0 0 [(0, .ref a), (2, .int (zI v124)), (3, .int (zI v412)), (4, .int (zI v416))] 175 [] := by
                          intro m_c175_61
                          induction m_c175_61 with
                          | zero => intro v416 s62 hm_c175_61 fA63 hS_s62 hF_s62; exfalso; omega
                          | succ m_c175_61 ih_c175_61 => 
                            intro v416 s62 hm_c175_61 fA63 hS_s62 hF_s62
                            refine j_iload hx 3 dX12_book_175 rfl ?_
                            refine j_iconst hx dX12_book_177 ?_
                            refine j_iload_n hx 1 dX12_book_178 rfl ?_
                            refine j_imul hx (r := 2 * v124) dX12_book_179 rfl ?_
                            refine j_icmp_ge hx 203 dX12_book_180 rfl (by omega) (by omega) (fun h417 => ?_) (fun h417 => ?_)
                            · skip
                              refine j_iload_n hx 2 dX12_book_203 rfl ?_
                              have g418 : s62 a 21 = s59 a 21 := (by rw [(zFr_g hF_s62 ha (by decide)), e_s60, zU_at (Or.inr (by decide))])
                              have f419 := zf hS_s59 ha (k := 21) rfl
                              have g420 : s62 a 22 = s59 a 22 := (by rw [(zFr_g hF_s62 ha (by decide)), e_s60, zU_at (Or.inr (by decide))])
                              have f421 := zf hS_s59 ha (k := 22) rfl
                              have g422 : s62 a 23 = s59 a 23 := (by rw [(zFr_g hF_s62 ha (by decide)), e_s60, zU_at (Or.inr (by decide))])
                              have f423 := zf hS_s59 ha (k := 23) rfl
                              have g424 : s62 a 24 = s59 a 24 := (by rw [(zFr_g hF_s62 ha (by decide)), e_s60, zU_at (Or.inr (by decide))])
                              have f425 := zf hS_s59 ha (k := 24) rfl
                              have g426 : s62 a 38 = s59 a 38 := (by rw [(zFr_g hF_s62 ha (by decide)), e_s60, zU_at (Or.inr (by decide))])
                              have f427 := zf hS_s59 ha (k := 38) rfl
                              have g428 : s62 a 51 = s59 a 51 := (by rw [(zFr_g hF_s62 ha (by decide)), e_s60, zU_at (Or.inr (by decide))])
                              have f429 := zf hS_s59 ha (k := 51) rfl
                              have g430 : s62 a 52 = s59 a 52 := (by rw [(zFr_g hF_s62 ha (by decide)), e_s60, zU_at (Or.inr (by decide))])
                              have f431 := zf hS_s59 ha (k := 52) rfl
                              exact j_iret hx hq rfl (by decide) (by decide) dX12_book_204 ⟨v412, rfl, rfl, hS_s62, (zFr_t (zFr_u (zFr_t (zFr_t (zFr_t (zFr_t (zFr_t (zFr_t (zFr_t (zFr_u zFr_rf e_s1 ha (by decide)) hF_s5 (by decide)) hF_s7 (by decide)) hF_s33 (by decide)) hF_s42 (by decide)) hF_s55 (by decide)) hF_s56 (by decide)) hF_s59 (by decide)) e_s60 ha (by decide)) hF_s62 (by decide)), ⟨(by omega), by omega, by omega, by omega, by omega, by omega, by omega, by omega⟩⟩
                            · skip
                              refine j_aload_n hx 0 dX12_book_183 rfl ?_
                              refine g13_40 hx hG ha kf_RX12_92 dX12_book_184 ?_
                              refine j_iload hx 3 dX12_book_187 rfl ?_
                              refine j_aload_n hx 0 dX12_book_189 rfl ?_
                              refine g13_39 hx hG ha kf_RX12_89 dX12_book_190 ?_
                              refine j_iload hx 3 dX12_book_193 rfl ?_
                              have f432 := zaI (j := (v416).toNat) hS_s7 (zr (k := 39) (t2 := 96) hG ha rfl) rfl (zlen hG (zr (k := 39) (t2 := 96) hG ha rfl) (n := 24) rfl rfl) (show 0 ≤ v416 by omega) (by omega) rfl
                              refine j_iald hx hG (zr (k := 39) (t2 := 96) hG ha rfl) (by decide) rfl (zlen hG (zr (k := 39) (t2 := 96) hG ha rfl) (n := 24) rfl rfl) (by omega) (by omega) (j := (v416).toNat) rfl (v := (s7 (gP G a 39) (v416).toNat)) (by rw [(zFr_g hF_s62 (zr (k := 39) (t2 := 96) hG ha rfl) (by decide)), e_s60, zU_at (Or.inl (zne ha (zr (k := 39) (t2 := 96) hG ha rfl) (by decide))), (zFr_g hF_s59 (zr (k := 39) (t2 := 96) hG ha rfl) (by decide)), (zFr_g hF_s56 (zr (k := 39) (t2 := 96) hG ha rfl) (by decide)), (zFr_g hF_s55 (zr (k := 39) (t2 := 96) hG ha rfl) (by decide)), (zFr_g hF_s42 (zr (k := 39) (t2 := 96) hG ha rfl) (by decide)), (zFr_g hF_s33 (zr (k := 39) (t2 := 96) hG ha rfl) (by decide))]) dX12_book_195 ?_
                              refine j_iast hx hG (zr (k := 40) (t2 := 97) hG ha rfl) (by decide) rfl (zlen hG (zr (k := 40) (t2 := 97) hG ha rfl) (n := 24) rfl rfl) (by omega) (by omega) (j := (v416).toNat) rfl dX12_book_196 ?_
                              obtain ⟨s66, e_s66⟩ : ∃ z, z = zU s62 (gP G a 40) (v416).toNat ((s7 (gP G a 39) (v416).toNat)) := ⟨_, rfl⟩
                              rw [← e_s66]
                              have hS_s66 : zSK G s66 := by rw [e_s66]; exact zSK_A hS_s62 (zr (k := 40) (t2 := 97) hG ha rfl) rfl rfl rfl (by omega)
                              refine j_iinc hx 3 [(4, .int (zI (v416 + 1))), (0, .ref a), (2, .int (zI v124)), (3, .int (zI v412))] dX12_book_197 rfl (by omega) (by decide) rfl ?_
                              refine j_goto hx 175 dX12_book_200 rfl ?_
                              exact j_sub [1, 2, 3, 0] [(0, .ref a), (2, .int (zI v124)), (3, .int (zI v412)), (4, .int (zI (v416 + 1)))] rfl (ih_c175_61 (v416 + 1) s66 (by omega) (by omega) hS_s66 (zFr_u (zFr_t zFr_rf hF_s62 (by decide)) e_s66 (zr (k := 40) (t2 := 97) hG ha rfl) (by decide)))
                        exact j_sub [3, 4, 1, 0] [(0, .ref a), (2, .int (zI v124)), (3, .int (zI v412)), (4, .int (zI 0))] rfl (c175_61 (2147483648 * 4) 0 s60 (by omega) (by omega) hS_s60 zFr_rf)
                      · skip
                        refine j_iload_n hx 0 dX12_book_165 rfl ?_
                        have f433 := zf hS_s59 ha (k := 21) rfl
                        have f434 := zf hS_s59 ha (k := 22) rfl
                        have f435 := zf hS_s59 ha (k := 23) rfl
                        have f436 := zf hS_s59 ha (k := 24) rfl
                        have f437 := zf hS_s59 ha (k := 38) rfl
                        have f438 := zf hS_s59 ha (k := 51) rfl
                        have f439 := zf hS_s59 ha (k := 52) rfl
                        exact j_iret hx hq rfl (by decide) (by decide) dX12_book_166 ⟨v412, rfl, rfl, hS_s59, (zFr_t (zFr_t (zFr_t (zFr_t (zFr_t (zFr_t (zFr_t (zFr_u zFr_rf e_s1 ha (by decide)) hF_s5 (by decide)) hF_s7 (by decide)) hF_s33 (by decide)) hF_s42 (by decide)) hF_s55 (by decide)) hF_s56 (by decide)) hF_s59 (by decide)), ⟨(by omega), by omega, by omega, by omega, by omega, by omega, by omega, by omega⟩⟩
                  · skip
                    refine j_aload_n hx 2 dX12_book_88 rfl ?_
                    refine j_iconst hx dX12_book_89 ?_
                    refine j_iload_n hx 1 dX12_book_90 rfl ?_
                    have f440 := zf hS_s42 ha (k := 5) rfl
                    have f441 := zf hS_s42 ha (k := 0) rfl
                    have f442 := zf hS_s42 ha (k := 3) rfl
                    have f443 := zf hS_s42 ha (k := 4) rfl
                    have f444 := zf hS_s42 ha (k := 7) rfl
                    have f445 := zf hS_s42 ha (k := 21) rfl
                    have f446 := zf hS_s42 ha (k := 22) rfl
                    have f447 := zf hS_s42 ha (k := 23) rfl
                    have f448 := zf hS_s42 ha (k := 24) rfl
                    have f449 := zf hS_s42 ha (k := 38) rfl
                    have f450 := zf hS_s42 ha (k := 51) rfl
                    have f451 := zf hS_s42 ha (k := 52) rfl
                    refine j_callV hx hG (c_X12_wrong hst a 3 ((s33 a 4))) lk_RX12_173 ha (by decide) rfl rfl rfl rfl [.int (zI 3), .int (zI ((s33 a 4)))] ⟨rfl, hG, hS_s42, ha, (by omega), (by omega)⟩ rfl rfl ⟨by decide, by decide⟩ ⟨by decide, by decide⟩ (k2 := 0) (n2 := 0) rfl rfl (Nat.le_of_ble_eq_true rfl) dX12_book_91 (kVM (fun s67 hS_s67 hF_s67 q453 => ?_))
                    refine j_aload_n hx 2 dX12_book_94 rfl ?_
                    refine j_iconst hx dX12_book_95 ?_
                    refine j_aload_n hx 2 dX12_book_96 rfl ?_
                    have f454 := zf hS_s67 ha (k := 24) rfl
                    refine g13_24 hx hG ha kf_RX12_189 rfl dX12_book_97 ?_
                    refine j_iconst hx dX12_book_100 ?_
                    refine j_isub hx (r := (s67 a 24) - 1) dX12_book_101 (by omega) ?_
                    have f455 := zf hS_s67 ha (k := 4) rfl
                    have f456 := zf hS_s67 ha (k := 3) rfl
                    have f457 := zf hS_s67 ha (k := 5) rfl
                    have f458 := zf hS_s67 ha (k := 0) rfl
                    have f459 := zf hS_s67 ha (k := 7) rfl
                    have f460 := zf hS_s67 ha (k := 21) rfl
                    have f461 := zf hS_s67 ha (k := 22) rfl
                    have f462 := zf hS_s67 ha (k := 23) rfl
                    have f463 := zf hS_s67 ha (k := 38) rfl
                    have f464 := zf hS_s67 ha (k := 51) rfl
                    have f465 := zf hS_s67 ha (k := 52) rfl
                    refine j_callV hx hG (c_X12_readNumber_p hst a 0 ((s67 a 24) - 1)) lk_RX12_219 ha (by decide) rfl rfl rfl rfl [.int (zI 0), .int (zI ((s67 a 24) - 1))] ⟨rfl, hG, hS_s67, ha, (by omega), (by omega), (by omega)⟩ rfl rfl ⟨by decide, by decide⟩ ⟨by decide, by decide⟩ (k2 := 0) (n2 := 0) rfl rfl (Nat.le_of_ble_eq_true rfl) dX12_book_102 (kIM (fun v466 s68 hS_s68 hF_s68 q467 => ?_))
                    refine j_istore hx [(5, .int (zI v466)), (4, .int (zI v244)), (3, .int (zI ((s33 a 4)))), (0, .ref a), (2, .int (zI v124))] dX12_book_105 (by decide) rfl ?_
                    refine j_aload_n hx 3 dX12_book_107 rfl ?_
                    refine j_bipush hx dX12_book_108 rfl ?_
                    have f468 := zf hS_s68 ha (k := 4) rfl
                    have f469 := zf hS_s68 ha (k := 3) rfl
                    have f470 := zf hS_s68 ha (k := 5) rfl
                    have f471 := zf hS_s68 ha (k := 0) rfl
                    have f472 := zf hS_s68 ha (k := 7) rfl
                    have f473 := zf hS_s68 ha (k := 21) rfl
                    have f474 := zf hS_s68 ha (k := 22) rfl
                    have f475 := zf hS_s68 ha (k := 23) rfl
                    have f476 := zf hS_s68 ha (k := 24) rfl
                    have f477 := zf hS_s68 ha (k := 38) rfl
                    have f478 := zf hS_s68 ha (k := 51) rfl
                    have f479 := zf hS_s68 ha (k := 52) rfl
                    refine j_callV hx hG (c_X12_sign hst a 59) lk_RX12_262 ha (by decide) rfl rfl rfl rfl [.int (zI 59)] ⟨rfl, hG, hS_s68, ha, (by omega), (by omega)⟩ rfl rfl ⟨by decide, by decide⟩ ⟨by decide, by decide⟩ (k2 := 0) (n2 := 0) rfl rfl (Nat.le_of_ble_eq_true rfl) dX12_book_110 (kVM (fun s69 hS_s69 hF_s69 q481 => ?_))
                    refine j_aload_n hx 3 dX12_book_113 rfl ?_
                    refine j_callV hx hG (c_X12_fine hst a) lk_RX12_166 ha (by decide) rfl rfl rfl rfl [] ⟨rfl, hG, hS_s69, ha⟩ rfl rfl ⟨by decide, by decide⟩ ⟨by decide, by decide⟩ (k2 := 0) (n2 := 0) rfl rfl (Nat.le_of_ble_eq_true rfl) dX12_book_114 (kIP (fun v482 q483 => ?_))
                    refine j_if_ne hx 123 dX12_book_117 rfl (by omega) (fun h484 => ?_) (fun h484 => ?_)
                    · skip
                      refine j_aload_n hx 3 dX12_book_123 rfl ?_
                      refine g13_39 hx hG ha kf_RX12_89 dX12_book_124 ?_
                      refine j_iconst hx dX12_book_127 ?_
                      refine j_iload_n hx 4 dX12_book_128 rfl ?_
                      refine j_imul hx (r := 2 * v124) dX12_book_129 rfl ?_
                      refine j_iload hx 1 dX12_book_130 rfl ?_
                      refine j_iast hx hG (zr (k := 39) (t2 := 96) hG ha rfl) (by decide) rfl (zlen hG (zr (k := 39) (t2 := 96) hG ha rfl) (n := 24) rfl rfl) (by omega) (by omega) (j := (2 * v124).toNat) rfl dX12_book_132 ?_
                      obtain ⟨s70, e_s70⟩ : ∃ z, z = zU s69 (gP G a 39) (2 * v124).toNat v244 := ⟨_, rfl⟩
                      rw [← e_s70]
                      have hS_s70 : zSK G s70 := by rw [e_s70]; exact zSK_A hS_s69 (zr (k := 39) (t2 := 96) hG ha rfl) rfl rfl rfl (by omega)
                      refine j_aload_n hx 3 dX12_book_133 rfl ?_
                      refine g13_39 hx hG ha kf_RX12_89 dX12_book_134 ?_
                      refine j_iconst hx dX12_book_137 ?_
                      refine j_iload_n hx 4 dX12_book_138 rfl ?_
                      refine j_imul hx (r := 2 * v124) dX12_book_139 rfl ?_
                      refine j_iconst hx dX12_book_140 ?_
                      refine j_iadd hx (r := 2 * v124 + 1) dX12_book_141 (by omega) ?_
                      refine j_iload hx 0 dX12_book_142 rfl ?_
                      refine j_iast hx hG (zr (k := 39) (t2 := 96) hG ha rfl) (by decide) rfl (zlen hG (zr (k := 39) (t2 := 96) hG ha rfl) (n := 24) rfl rfl) (by omega) (by omega) (j := (2 * v124 + 1).toNat) rfl dX12_book_144 ?_
                      obtain ⟨s71, e_s71⟩ : ∃ z, z = zU s70 (gP G a 39) (2 * v124 + 1).toNat v466 := ⟨_, rfl⟩
                      rw [← e_s71]
                      have hS_s71 : zSK G s71 := by rw [e_s71]; exact zSK_A hS_s70 (zr (k := 39) (t2 := 96) hG ha rfl) rfl rfl rfl (by omega)
                      refine j_iinc hx 4 [(2, .int (zI (v124 + 1))), (5, .int (zI v466)), (4, .int (zI v244)), (3, .int (zI ((s33 a 4)))), (0, .ref a)] dX12_book_145 rfl (by omega) (by decide) rfl ?_
                      refine j_goto hx 46 dX12_book_148 rfl ?_
                      have g485 : s71 a 4 = s69 a 4 := (by rw [e_s71, zU_at (Or.inl (zne (zr (k := 39) (t2 := 96) hG ha rfl) ha (by decide))), e_s70, zU_at (Or.inl (zne (zr (k := 39) (t2 := 96) hG ha rfl) ha (by decide)))])
                      have f486 := zf hS_s69 ha (k := 4) rfl
                      have g487 : s71 a 5 = s69 a 5 := (by rw [e_s71, zU_at (Or.inl (zne (zr (k := 39) (t2 := 96) hG ha rfl) ha (by decide))), e_s70, zU_at (Or.inl (zne (zr (k := 39) (t2 := 96) hG ha rfl) ha (by decide)))])
                      have f488 := zf hS_s69 ha (k := 5) rfl
                      have g489 : s71 a 0 = s69 a 0 := (by rw [e_s71, zU_at (Or.inl (zne (zr (k := 39) (t2 := 96) hG ha rfl) ha (by decide))), e_s70, zU_at (Or.inl (zne (zr (k := 39) (t2 := 96) hG ha rfl) ha (by decide)))])
                      have f490 := zf hS_s69 ha (k := 0) rfl
                      have g491 : s71 a 3 = s69 a 3 := (by rw [e_s71, zU_at (Or.inl (zne (zr (k := 39) (t2 := 96) hG ha rfl) ha (by decide))), e_s70, zU_at (Or.inl (zne (zr (k := 39) (t2 := 96) hG ha rfl) ha (by decide)))])
                      have f492 := zf hS_s69 ha (k := 3) rfl
                      have g493 : s71 a 7 = s69 a 7 := (by rw [e_s71, zU_at (Or.inl (zne (zr (k := 39) (t2 := 96) hG ha rfl) ha (by decide))), e_s70, zU_at (Or.inl (zne (zr (k := 39) (t2 := 96) hG ha rfl) ha (by decide)))])
                      have f494 := zf hS_s69 ha (k := 7) rfl
                      have g495 : s71 a 21 = s69 a 21 := (by rw [e_s71, zU_at (Or.inl (zne (zr (k := 39) (t2 := 96) hG ha rfl) ha (by decide))), e_s70, zU_at (Or.inl (zne (zr (k := 39) (t2 := 96) hG ha rfl) ha (by decide)))])
                      have f496 := zf hS_s69 ha (k := 21) rfl
                      have g497 : s71 a 22 = s69 a 22 := (by rw [e_s71, zU_at (Or.inl (zne (zr (k := 39) (t2 := 96) hG ha rfl) ha (by decide))), e_s70, zU_at (Or.inl (zne (zr (k := 39) (t2 := 96) hG ha rfl) ha (by decide)))])
                      have f498 := zf hS_s69 ha (k := 22) rfl
                      have g499 : s71 a 23 = s69 a 23 := (by rw [e_s71, zU_at (Or.inl (zne (zr (k := 39) (t2 := 96) hG ha rfl) ha (by decide))), e_s70, zU_at (Or.inl (zne (zr (k := 39) (t2 := 96) hG ha rfl) ha (by decide)))])
                      have f500 := zf hS_s69 ha (k := 23) rfl
                      have g501 : s71 a 24 = s69 a 24 := (by rw [e_s71, zU_at (Or.inl (zne (zr (k := 39) (t2 := 96) hG ha rfl) ha (by decide))), e_s70, zU_at (Or.inl (zne (zr (k := 39) (t2 := 96) hG ha rfl) ha (by decide)))])
                      have f502 := zf hS_s69 ha (k := 24) rfl
                      have g503 : s71 a 38 = s69 a 38 := (by rw [e_s71, zU_at (Or.inl (zne (zr (k := 39) (t2 := 96) hG ha rfl) ha (by decide))), e_s70, zU_at (Or.inl (zne (zr (k := 39) (t2 := 96) hG ha rfl) ha (by decide)))])
                      have f504 := zf hS_s69 ha (k := 38) rfl
                      have g505 : s71 a 51 = s69 a 51 := (by rw [e_s71, zU_at (Or.inl (zne (zr (k := 39) (t2 := 96) hG ha rfl) ha (by decide))), e_s70, zU_at (Or.inl (zne (zr (k := 39) (t2 := 96) hG ha rfl) ha (by decide)))])
                      have f506 := zf hS_s69 ha (k := 51) rfl
                      have g507 : s71 a 52 = s69 a 52 := (by rw [e_s71, zU_at (Or.inl (zne (zr (k := 39) (t2 := 96) hG ha rfl) ha (by decide))), e_s70, zU_at (Or.inl (zne (zr (k := 39) (t2 := 96) hG ha rfl) ha (by decide)))])
                      have f508 := zf hS_s69 ha (k := 52) rfl
                      exact j_sub [4, 0] [(0, .ref a), (2, .int (zI (v124 + 1)))] rfl (ih_c46_6 (v124 + 1) s71 (by omega) (by omega) hS_s71 (zFr_u (zFr_u (zFr_t (zFr_t (zFr_t (zFr_t (zFr_t (zFr_t zFr_rf hF_s7 (by decide)) hF_s33 (by decide)) hF_s42 (by decide)) hF_s67 (by decide)) hF_s68 (by decide)) hF_s69 (by decide)) e_s70 (zr (k := 39) (t2 := 96) hG ha rfl) (by decide)) e_s71 (zr (k := 39) (t2 := 96) hG ha rfl) (by decide)) (by omega) (by omega) (by omega) (by omega) (by omega) (by omega) (by omega) (by omega) (by omega) (by omega) (by omega) (by omega) (by omega) (by omega))
                    · skip
                      refine j_goto hx 151 dX12_book_120 rfl ?_
                      refine j_aload_n hx 3 dX12_book_151 rfl ?_
                      refine j_iload_n hx 4 dX12_book_152 rfl ?_
                      have f509 := zf hS_s69 ha (k := 0) rfl
                      have f510 := zf hS_s69 ha (k := 3) rfl
                      have f511 := zf hS_s69 ha (k := 4) rfl
                      have f512 := zf hS_s69 ha (k := 5) rfl
                      have f513 := zf hS_s69 ha (k := 7) rfl
                      have f514 := zf hS_s69 ha (k := 21) rfl
                      have f515 := zf hS_s69 ha (k := 22) rfl
                      have f516 := zf hS_s69 ha (k := 23) rfl
                      have f517 := zf hS_s69 ha (k := 24) rfl
                      have f518 := zf hS_s69 ha (k := 38) rfl
                      have f519 := zf hS_s69 ha (k := 51) rfl
                      have f520 := zf hS_s69 ha (k := 52) rfl
                      refine j_callV hx hG (c_X12_result hst a v124) lk_RX12_265 ha (by decide) rfl rfl rfl rfl [.int (zI v124)] ⟨rfl, hG, hS_s69, ha, (by omega)⟩ rfl rfl ⟨by decide, by decide⟩ ⟨by decide, by decide⟩ (k2 := 0) (n2 := 0) rfl rfl (Nat.le_of_ble_eq_true rfl) dX12_book_153 (kIM (fun v521 s72 hS_s72 hF_s72 q522 => ?_))
                      refine j_istore_n hx [(3, .int (zI v521)), (5, .int (zI v466)), (4, .int (zI v244)), (0, .ref a), (2, .int (zI v124))] dX12_book_156 (by decide) rfl ?_
                      refine j_aload_n hx 3 dX12_book_157 rfl ?_
                      have f523 := zf hS_s72 ha (k := 5) rfl
                      refine g13_5 hx hG ha kf_RX12_137 rfl dX12_book_158 ?_
                      refine j_iconst hx dX12_book_161 ?_
                      refine j_icmp_eq hx 167 dX12_book_162 rfl (by omega) ⟨by decide, by decide⟩ (fun h524 => ?_) (fun h524 => ?_)
                      · skip
                        refine j_aload_n hx 3 dX12_book_167 rfl ?_
                        refine j_iload_n hx 4 dX12_book_168 rfl ?_
                        refine p13_41 hx hG ha kf_RX12_198 dX12_book_169 ?_
                        obtain ⟨s73, e_s73⟩ : ∃ z, z = zU s72 a 41 v124 := ⟨_, rfl⟩
                        rw [← e_s73]
                        have hS_s73 : zSK G s73 := by rw [e_s73]; exact zSK_F hS_s72 ha rfl rfl rfl (by omega)
                        refine j_iconst hx dX12_book_172 ?_
                        refine j_istore hx [(4, .int (zI 0)), (3, .int (zI v521)), (5, .int (zI v466)), (0, .ref a), (2, .int (zI v124))] dX12_book_173 (by decide) rfl ?_
                        have c175_74 : ∀ (m_c175_74 : Nat) (v525 : Int) (s75 : zS), 2147483648 - v525 < m_c175_74 → (0 ≤ v525 ∧ v525 ≤ 2147483647) → (zSK G s75) → (zFr [97] G s73 s75) → JJ X E 6 G s75 0 0 [(0, .ref a), (2, .int (zI v124)), (3, .int (zI v521)), (4, .int (zI v525))] 175 [] := by
                          intro m_c175_74
                          induction m_c175_74 with
                          | zero => intro v525 s75 hm_c175_74 fA76 hS_s75 hF_s75; exfalso; omega
                          | succ m_c175_74 ih_c175_74 => 
                            intro v525 s75 hm_c175_74 fA76 hS_s75 hF_s75
                            refine j_iload hx 3 dX12_book_175 rfl ?_
                            refine j_iconst hx dX12_book_177 ?_
                            refine j_iload_n hx 1 dX12_book_178 rfl ?_
                            refine j_imul hx (r := 2 * v124) dX12_book_179 rfl ?_
                            refine j_icmp_ge hx 203 dX12_book_180 rfl (by omega) (by omega) (fun h526 => ?_) (fun h526 => ?_)
                            · skip
                              refine j_iload_n hx 2 dX12_book_203 rfl ?_
                              have g527 : s75 a 21 = s72 a 21 := (by rw [(zFr_g hF_s75 ha (by decide)), e_s73, zU_at (Or.inr (by decide))])
                              have f528 := zf hS_s72 ha (k := 21) rfl
                              have g529 : s75 a 22 = s72 a 22 := (by rw [(zFr_g hF_s75 ha (by decide)), e_s73, zU_at (Or.inr (by decide))])
                              have f530 := zf hS_s72 ha (k := 22) rfl
                              have g531 : s75 a 23 = s72 a 23 := (by rw [(zFr_g hF_s75 ha (by decide)), e_s73, zU_at (Or.inr (by decide))])
                              have f532 := zf hS_s72 ha (k := 23) rfl
                              have g533 : s75 a 24 = s72 a 24 := (by rw [(zFr_g hF_s75 ha (by decide)), e_s73, zU_at (Or.inr (by decide))])
                              have f534 := zf hS_s72 ha (k := 24) rfl
                              have g535 : s75 a 38 = s72 a 38 := (by rw [(zFr_g hF_s75 ha (by decide)), e_s73, zU_at (Or.inr (by decide))])
                              have f536 := zf hS_s72 ha (k := 38) rfl
                              have g537 : s75 a 51 = s72 a 51 := (by rw [(zFr_g hF_s75 ha (by decide)), e_s73, zU_at (Or.inr (by decide))])
                              have f538 := zf hS_s72 ha (k := 51) rfl
                              have g539 : s75 a 52 = s72 a 52 := (by rw [(zFr_g hF_s75 ha (by decide)), e_s73, zU_at (Or.inr (by decide))])
                              have f540 := zf hS_s72 ha (k := 52) rfl
                              exact j_iret hx hq rfl (by decide) (by decide) dX12_book_204 ⟨v521, rfl, rfl, hS_s75, (zFr_t (zFr_u (zFr_t (zFr_t (zFr_t (zFr_t (zFr_t (zFr_t (zFr_t (zFr_t (zFr_u zFr_rf e_s1 ha (by decide)) hF_s5 (by decide)) hF_s7 (by decide)) hF_s33 (by decide)) hF_s42 (by decide)) hF_s67 (by decide)) hF_s68 (by decide)) hF_s69 (by decide)) hF_s72 (by decide)) e_s73 ha (by decide)) hF_s75 (by decide)), ⟨(by omega), by omega, by omega, by omega, by omega, by omega, by omega, by omega⟩⟩
                            · skip
                              refine j_aload_n hx 0 dX12_book_183 rfl ?_
                              refine g13_40 hx hG ha kf_RX12_92 dX12_book_184 ?_
                              refine j_iload hx 3 dX12_book_187 rfl ?_
                              refine j_aload_n hx 0 dX12_book_189 rfl ?_
                              refine g13_39 hx hG ha kf_RX12_89 dX12_book_190 ?_
                              refine j_iload hx 3 dX12_book_193 rfl ?_
                              have f541 := zaI (j := (v525).toNat) hS_s7 (zr (k := 39) (t2 := 96) hG ha rfl) rfl (zlen hG (zr (k := 39) (t2 := 96) hG ha rfl) (n := 24) rfl rfl) (show 0 ≤ v525 by omega) (by omega) rfl
                              refine j_iald hx hG (zr (k := 39) (t2 := 96) hG ha rfl) (by decide) rfl (zlen hG (zr (k := 39) (t2 := 96) hG ha rfl) (n := 24) rfl rfl) (by omega) (by omega) (j := (v525).toNat) rfl (v := (s7 (gP G a 39) (v525).toNat)) (by rw [(zFr_g hF_s75 (zr (k := 39) (t2 := 96) hG ha rfl) (by decide)), e_s73, zU_at (Or.inl (zne ha (zr (k := 39) (t2 := 96) hG ha rfl) (by decide))), (zFr_g hF_s72 (zr (k := 39) (t2 := 96) hG ha rfl) (by decide)), (zFr_g hF_s69 (zr (k := 39) (t2 := 96) hG ha rfl) (by decide)), (zFr_g hF_s68 (zr (k := 39) (t2 := 96) hG ha rfl) (by decide)), (zFr_g hF_s67 (zr (k := 39) (t2 := 96) hG ha rfl) (by decide)), (zFr_g hF_s42 (zr (k := 39) (t2 := 96) hG ha rfl) (by decide)), (zFr_g hF_s33 (zr (k := 39) (t2 := 96) hG ha rfl) (by decide))]) dX12_book_195 ?_
                              refine j_iast hx hG (zr (k := 40) (t2 := 97) hG ha rfl) (by decide) rfl (zlen hG (zr (k := 40) (t2 := 97) hG ha rfl) (n := 24) rfl rfl) (by omega) (by omega) (j := (v525).toNat) rfl dX12_book_196 ?_
                              obtain ⟨s79, e_s79⟩ : ∃ z, z = zU s75 (gP G a 40) (v525).toNat ((s7 (gP G a 39) (v525).toNat)) := ⟨_, rfl⟩
                              rw [← e_s79]
                              have hS_s79 : zSK G s79 := by rw [e_s79]; exact zSK_A hS_s75 (zr (k := 40) (t2 := 97) hG ha rfl) rfl rfl rfl (by omega)
                              refine j_iinc hx 3 [(4, .int (zI (v525 + 1))), (0, .ref a), (2, .int (zI v124)), (3, .int (zI v521))] dX12_book_197 rfl (by omega) (by decide) rfl ?_
                              refine j_goto hx 175 dX12_book_200 rfl ?_
                              exact j_sub [1, 2, 3, 0] [(0, .ref a), (2, .int (zI v124)), (3, .int (zI v521)), (4, .int (zI (v525 + 1)))] rfl (ih_c175_74 (v525 + 1) s79 (by omega) (by omega) hS_s79 (zFr_u (zFr_t zFr_rf hF_s75 (by decide)) e_s79 (zr (k := 40) (t2 := 97) hG ha rfl) (by decide)))
                        exact j_sub [3, 4, 1, 0] [(0, .ref a), (2, .int (zI v124)), (3, .int (zI v521)), (4, .int (zI 0))] rfl (c175_74 (2147483648 * 4) 0 s73 (by omega) (by omega) hS_s73 zFr_rf)
                      · skip
                        refine j_iload_n hx 0 dX12_book_165 rfl ?_
                        have f542 := zf hS_s72 ha (k := 21) rfl
                        have f543 := zf hS_s72 ha (k := 22) rfl
                        have f544 := zf hS_s72 ha (k := 23) rfl
                        have f545 := zf hS_s72 ha (k := 24) rfl
                        have f546 := zf hS_s72 ha (k := 38) rfl
                        have f547 := zf hS_s72 ha (k := 51) rfl
                        have f548 := zf hS_s72 ha (k := 52) rfl
                        exact j_iret hx hq rfl (by decide) (by decide) dX12_book_166 ⟨v521, rfl, rfl, hS_s72, (zFr_t (zFr_t (zFr_t (zFr_t (zFr_t (zFr_t (zFr_t (zFr_t (zFr_u zFr_rf e_s1 ha (by decide)) hF_s5 (by decide)) hF_s7 (by decide)) hF_s33 (by decide)) hF_s42 (by decide)) hF_s67 (by decide)) hF_s68 (by decide)) hF_s69 (by decide)) hF_s72 (by decide)), ⟨(by omega), by omega, by omega, by omega, by omega, by omega, by omega, by omega⟩⟩
        exact j_sub [1, 0] [(0, .ref a), (2, .int (zI 0))] rfl (c46_6 (2147483648 * 4) 0 s5 (by omega) (by omega) hS_s5 zFr_rf (by omega) (by omega) (by omega) (by omega) (by omega) (by omega) (by omega) (by omega) (by omega) (by omega) (by omega) (by omega) (by omega) (by omega))

set_option maxHeartbeats 1200000 in
set_option maxRecDepth 20000 in
theorem c_X12_fault {E : zE} {l : Launch} (hst : l.stackTraces = false) (a : Nat) : Con E l yX12_fault cX12_fault 1 (some .int) { frames := 0, cells := 0, slots := 0, locals := 0 } (fun G s vs => vs = [.ref a] ∧ zGK G ∧ zSK G s ∧ (gT G a = 13)) (fun G s _ => pI (fun r G2 s2 => G2 = G ∧ zSK G s2 ∧ zFr [13] G s s2 ∧ ((-2147483648) ≤ r ∧ r ≤ 2147483647) ∧ s2 a 3 = s a 3 ∧ s2 a 4 = s a 4 ∧ s2 a 5 = s a 5 ∧ s2 a 7 = s a 7 ∧ s2 a 21 = s a 21 ∧ s2 a 22 = s a 22 ∧ s2 a 23 = s a 23 ∧ s2 a 24 = s a 24 ∧ s2 a 38 = s a 38 ∧ s2 a 51 = s a 51 ∧ s2 a 52 = s a 52)) := by
  refine Con.mk hst (by decide) (fun G s vs h => by rw [h.1]; exact Nat.le_of_ble_eq_true rfl) ?_
  rintro X G s0 vs ⟨rfl, hG, hS0, ha⟩ rfl hx hq
  show JJ X E 1 G s0 0 0 [(0, .ref a)] 0 []
  refine j_aload_n hx 0 dX12_fault_0 rfl ?_
  refine j_iconst hx dX12_fault_1 ?_
  refine p13_0 hx hG ha kf_RX12_3 dX12_fault_2 ?_
  obtain ⟨s1, e_s1⟩ : ∃ z, z = zU s0 a 0 0 := ⟨_, rfl⟩
  rw [← e_s1]
  have hS_s1 : zSK G s1 := by rw [e_s1]; exact zSK_F hS0 ha rfl rfl rfl (by omega)
  refine j_aload_n hx 0 dX12_fault_5 rfl ?_
  have f1 := zf hS0 ha (k := 8) rfl
  refine g13_8 hx hG ha kf_RX12_17 (v := (s0 a 8)) (by rw [e_s1, zU_at (Or.inr (by decide))]) dX12_fault_6 ?_
  have g2 : s1 a 3 = s0 a 3 := (by rw [e_s1, zU_at (Or.inr (by decide))])
  have f3 := zf hS0 ha (k := 3) rfl
  have g4 : s1 a 4 = s0 a 4 := (by rw [e_s1, zU_at (Or.inr (by decide))])
  have f5 := zf hS0 ha (k := 4) rfl
  have g6 : s1 a 5 = s0 a 5 := (by rw [e_s1, zU_at (Or.inr (by decide))])
  have f7 := zf hS0 ha (k := 5) rfl
  have g8 : s1 a 7 = s0 a 7 := (by rw [e_s1, zU_at (Or.inr (by decide))])
  have f9 := zf hS0 ha (k := 7) rfl
  have g10 : s1 a 21 = s0 a 21 := (by rw [e_s1, zU_at (Or.inr (by decide))])
  have f11 := zf hS0 ha (k := 21) rfl
  have g12 : s1 a 22 = s0 a 22 := (by rw [e_s1, zU_at (Or.inr (by decide))])
  have f13 := zf hS0 ha (k := 22) rfl
  have g14 : s1 a 23 = s0 a 23 := (by rw [e_s1, zU_at (Or.inr (by decide))])
  have f15 := zf hS0 ha (k := 23) rfl
  have g16 : s1 a 24 = s0 a 24 := (by rw [e_s1, zU_at (Or.inr (by decide))])
  have f17 := zf hS0 ha (k := 24) rfl
  have g18 : s1 a 38 = s0 a 38 := (by rw [e_s1, zU_at (Or.inr (by decide))])
  have f19 := zf hS0 ha (k := 38) rfl
  have g20 : s1 a 51 = s0 a 51 := (by rw [e_s1, zU_at (Or.inr (by decide))])
  have f21 := zf hS0 ha (k := 51) rfl
  have g22 : s1 a 52 = s0 a 52 := (by rw [e_s1, zU_at (Or.inr (by decide))])
  have f23 := zf hS0 ha (k := 52) rfl
  exact j_iret hx hq rfl (by decide) (by decide) dX12_fault_9 ⟨(s0 a 8), rfl, rfl, hS_s1, (zFr_u zFr_rf e_s1 ha (by decide)), ⟨(by omega), by omega, by omega, by omega, by omega, by omega, by omega, by omega, by omega, by omega, by omega, by omega⟩⟩
