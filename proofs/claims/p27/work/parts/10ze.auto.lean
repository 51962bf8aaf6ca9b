set_option maxHeartbeats 4000000 in
set_option maxRecDepth 20000 in
theorem c_X12_film {E : zE} {l : Launch} (hst : l.stackTraces = false) (a : Nat) (x1 : Int) (x2 : Int) (x3 : Int) (x4 : Int) (x5 : Int) : Con E l yX12_film cX12_film 10 (some .int) { frames := 1, cells := 0, slots := 0, locals := 23 } (fun G s vs => vs = [.ref a, .int (zI x1), .int (zI x2), .int (zI x3), .int (zI x4), .int (zI x5)] ∧ zGK G ∧ zSK G s ∧ (gT G a = 13) ∧ ((-2147483648) ≤ x1 ∧ x1 ≤ 2147483647) ∧ ((-2147483648) ≤ x2 ∧ x2 ≤ 2147483647) ∧ ((-2147483648) ≤ x3 ∧ x3 ≤ 2147483647) ∧ ((-2147483648) ≤ x4 ∧ x4 ≤ 2147483647) ∧ ((-2147483648) ≤ x5 ∧ x5 ≤ 2147483647)) (fun G s _ => pI (fun r G2 s2 => G2 = G ∧ zSK G s2 ∧ zFr [13, 71] G s s2 ∧ ((-2147483648) ≤ r ∧ r ≤ 2147483647) ∧ s2 a 3 = s a 3 ∧ s2 a 4 = s a 4 ∧ s2 a 5 = s a 5 ∧ s2 a 7 = s a 7 ∧ s2 a 21 = s a 21 ∧ s2 a 22 = s a 22 ∧ s2 a 23 = s a 23 ∧ s2 a 24 = s a 24 ∧ s2 a 38 = s a 38 ∧ s2 a 51 = s a 51 ∧ s2 a 52 = s a 52)) := by
  refine Con.mk hst (by decide) (fun G s vs h => by rw [h.1]; exact Nat.le_of_ble_eq_true rfl) ?_
  rintro X G s0 vs ⟨rfl, hG, hS0, ha, hx1, hx2, hx3, hx4, hx5⟩ rfl hx hq
  show JJ X E 10 G s0 0 0 [(0, .ref a), (1, .int (zI x1)), (2, .int (zI x2)), (3, .int (zI x3)), (4, .int (zI x4)), (5, .int (zI x5))] 0 []
  refine j_aload_n hx 0 dX12_film_0 rfl ?_
  refine j_iconst hx dX12_film_1 ?_
  refine p13_0 hx hG ha kf_RX12_3 dX12_film_2 ?_
  obtain ⟨s1, e_s1⟩ : ∃ z, z = zU s0 a 0 0 := ⟨_, rfl⟩
  rw [← e_s1]
  have hS_s1 : zSK G s1 := by rw [e_s1]; exact zSK_F hS0 ha rfl rfl rfl (by omega)
  refine j_aload_n hx 0 dX12_film_5 rfl ?_
  refine j_iload_n hx 1 dX12_film_6 rfl ?_
  refine j_iconst hx dX12_film_7 ?_
  refine j_iload_n hx 2 dX12_film_8 rfl ?_
  refine j_callS hx (c_X12_within hst x1 0 x2) lk_RX12_314 [.int (zI x1), .int (zI 0), .int (zI x2)] ⟨rfl, hG, hS_s1, (by omega), (by omega), (by omega)⟩ rfl rfl ⟨by decide, by decide⟩ ⟨by decide, by decide⟩ (k2 := 0) (n2 := 0) rfl rfl (Nat.le_of_ble_eq_true rfl) dX12_film_9 (kIP (fun v1 q2 => ?_))
  refine j_if_eq hx 52 dX12_film_12 rfl (by omega) (fun h3 => ?_) (fun h3 => ?_)
  · skip
    refine j_iconst hx dX12_film_52 ?_
    refine j_iconst hx dX12_film_53 ?_
    refine j_iconst hx dX12_film_54 ?_
    have g4 : s1 a 0 = 0 := (by rw [e_s1, zU_eq])
    have g5 : s1 a 3 = s0 a 3 := (by rw [e_s1, zU_at (Or.inr (by decide))])
    have f6 := zf hS0 ha (k := 3) rfl
    have g7 : s1 a 4 = s0 a 4 := (by rw [e_s1, zU_at (Or.inr (by decide))])
    have f8 := zf hS0 ha (k := 4) rfl
    have g9 : s1 a 5 = s0 a 5 := (by rw [e_s1, zU_at (Or.inr (by decide))])
    have f10 := zf hS0 ha (k := 5) rfl
    have g11 : s1 a 7 = s0 a 7 := (by rw [e_s1, zU_at (Or.inr (by decide))])
    have f12 := zf hS0 ha (k := 7) rfl
    have g13 : s1 a 21 = s0 a 21 := (by rw [e_s1, zU_at (Or.inr (by decide))])
    have f14 := zf hS0 ha (k := 21) rfl
    have g15 : s1 a 22 = s0 a 22 := (by rw [e_s1, zU_at (Or.inr (by decide))])
    have f16 := zf hS0 ha (k := 22) rfl
    have g17 : s1 a 23 = s0 a 23 := (by rw [e_s1, zU_at (Or.inr (by decide))])
    have f18 := zf hS0 ha (k := 23) rfl
    have g19 : s1 a 24 = s0 a 24 := (by rw [e_s1, zU_at (Or.inr (by decide))])
    have f20 := zf hS0 ha (k := 24) rfl
    have g21 : s1 a 38 = s0 a 38 := (by rw [e_s1, zU_at (Or.inr (by decide))])
    have f22 := zf hS0 ha (k := 38) rfl
    have g23 : s1 a 51 = s0 a 51 := (by rw [e_s1, zU_at (Or.inr (by decide))])
    have f24 := zf hS0 ha (k := 51) rfl
    have g25 : s1 a 52 = s0 a 52 := (by rw [e_s1, zU_at (Or.inr (by decide))])
    have f26 := zf hS0 ha (k := 52) rfl
    refine j_callV hx hG (c_X12_may_f hst a 0 1 1) lk_RX12_240 ha (by decide) rfl rfl rfl rfl [.int (zI 0), .int (zI 1), .int (zI 1)] ⟨rfl, hG, hS_s1, ha, (by omega), (by omega), (by omega), (((by rw [e_s1, zU_eq]) : s1 a 0 = 0).trans (by omega))⟩ rfl rfl ⟨by decide, by decide⟩ ⟨by decide, by decide⟩ (k2 := 0) (n2 := 0) rfl rfl (Nat.le_of_ble_eq_true rfl) dX12_film_55 (kIM (fun v27 s2 hS_s2 hF_s2 q28 => ?_))
    refine j_if_ne hx 63 dX12_film_58 rfl (by omega) (fun h29 => absurd h29 (by omega)) (fun h29 => ?_)
    refine j_iconst hx dX12_film_61 ?_
    have f30 := zf hS_s2 ha (k := 3) rfl
    have f31 := zf hS_s2 ha (k := 4) rfl
    have f32 := zf hS_s2 ha (k := 5) rfl
    have f33 := zf hS_s2 ha (k := 7) rfl
    have f34 := zf hS_s2 ha (k := 21) rfl
    have f35 := zf hS_s2 ha (k := 22) rfl
    have f36 := zf hS_s2 ha (k := 23) rfl
    have f37 := zf hS_s2 ha (k := 24) rfl
    have f38 := zf hS_s2 ha (k := 38) rfl
    have f39 := zf hS_s2 ha (k := 51) rfl
    have f40 := zf hS_s2 ha (k := 52) rfl
    exact j_iret hx hq rfl (by decide) (by decide) dX12_film_62 ⟨0, rfl, rfl, hS_s2, (zFr_t (zFr_u zFr_rf e_s1 ha (by decide)) hF_s2 (by decide)), ⟨(by omega), by omega, by omega, by omega, by omega, by omega, by omega, by omega, by omega, by omega, by omega, by omega⟩⟩
  · skip
    refine j_iload_n hx 2 dX12_film_15 rfl ?_
    refine j_bipush hx dX12_film_16 rfl ?_
    refine j_icmp_gt hx 52 dX12_film_18 rfl (by omega) ⟨by decide, by decide⟩ (fun h41 => ?_) (fun h41 => ?_)
    · skip
      refine j_iconst hx dX12_film_52 ?_
      refine j_iconst hx dX12_film_53 ?_
      refine j_iconst hx dX12_film_54 ?_
      have g42 : s1 a 0 = 0 := (by rw [e_s1, zU_eq])
      have g43 : s1 a 3 = s0 a 3 := (by rw [e_s1, zU_at (Or.inr (by decide))])
      have f44 := zf hS0 ha (k := 3) rfl
      have g45 : s1 a 4 = s0 a 4 := (by rw [e_s1, zU_at (Or.inr (by decide))])
      have f46 := zf hS0 ha (k := 4) rfl
      have g47 : s1 a 5 = s0 a 5 := (by rw [e_s1, zU_at (Or.inr (by decide))])
      have f48 := zf hS0 ha (k := 5) rfl
      have g49 : s1 a 7 = s0 a 7 := (by rw [e_s1, zU_at (Or.inr (by decide))])
      have f50 := zf hS0 ha (k := 7) rfl
      have g51 : s1 a 21 = s0 a 21 := (by rw [e_s1, zU_at (Or.inr (by decide))])
      have f52 := zf hS0 ha (k := 21) rfl
      have g53 : s1 a 22 = s0 a 22 := (by rw [e_s1, zU_at (Or.inr (by decide))])
      have f54 := zf hS0 ha (k := 22) rfl
      have g55 : s1 a 23 = s0 a 23 := (by rw [e_s1, zU_at (Or.inr (by decide))])
      have f56 := zf hS0 ha (k := 23) rfl
      have g57 : s1 a 24 = s0 a 24 := (by rw [e_s1, zU_at (Or.inr (by decide))])
      have f58 := zf hS0 ha (k := 24) rfl
      have g59 : s1 a 38 = s0 a 38 := (by rw [e_s1, zU_at (Or.inr (by decide))])
      have f60 := zf hS0 ha (k := 38) rfl
      have g61 : s1 a 51 = s0 a 51 := (by rw [e_s1, zU_at (Or.inr (by decide))])
      have f62 := zf hS0 ha (k := 51) rfl
      have g63 : s1 a 52 = s0 a 52 := (by rw [e_s1, zU_at (Or.inr (by decide))])
      have f64 := zf hS0 ha (k := 52) rfl
      refine j_callV hx hG (c_X12_may_f hst a 0 1 1) lk_RX12_240 ha (by decide) rfl rfl rfl rfl [.int (zI 0), .int (zI 1), .int (zI 1)] ⟨rfl, hG, hS_s1, ha, (by omega), (by omega), (by omega), (((by rw [e_s1, zU_eq]) : s1 a 0 = 0).trans (by omega))⟩ rfl rfl ⟨by decide, by decide⟩ ⟨by decide, by decide⟩ (k2 := 0) (n2 := 0) rfl rfl (Nat.le_of_ble_eq_true rfl) dX12_film_55 (kIM (fun v65 s3 hS_s3 hF_s3 q66 => ?_))
      refine j_if_ne hx 63 dX12_film_58 rfl (by omega) (fun h67 => absurd h67 (by omega)) (fun h67 => ?_)
      refine j_iconst hx dX12_film_61 ?_
      have f68 := zf hS_s3 ha (k := 3) rfl
      have f69 := zf hS_s3 ha (k := 4) rfl
      have f70 := zf hS_s3 ha (k := 5) rfl
      have f71 := zf hS_s3 ha (k := 7) rfl
      have f72 := zf hS_s3 ha (k := 21) rfl
      have f73 := zf hS_s3 ha (k := 22) rfl
      have f74 := zf hS_s3 ha (k := 23) rfl
      have f75 := zf hS_s3 ha (k := 24) rfl
      have f76 := zf hS_s3 ha (k := 38) rfl
      have f77 := zf hS_s3 ha (k := 51) rfl
      have f78 := zf hS_s3 ha (k := 52) rfl
      exact j_iret hx hq rfl (by decide) (by decide) dX12_film_62 ⟨0, rfl, rfl, hS_s3, (zFr_t (zFr_u zFr_rf e_s1 ha (by decide)) hF_s3 (by decide)), ⟨(by omega), by omega, by omega, by omega, by omega, by omega, by omega, by omega, by omega, by omega, by omega, by omega⟩⟩
    · skip
      refine j_iload_n hx 3 dX12_film_21 rfl ?_
      refine j_iconst hx dX12_film_22 ?_
      refine j_iload hx 4 dX12_film_23 rfl ?_
      refine j_callS hx (c_X12_within hst x3 0 x4) lk_RX12_314 [.int (zI x3), .int (zI 0), .int (zI x4)] ⟨rfl, hG, hS_s1, (by omega), (by omega), (by omega)⟩ rfl rfl ⟨by decide, by decide⟩ ⟨by decide, by decide⟩ (k2 := 0) (n2 := 0) rfl rfl (Nat.le_of_ble_eq_true rfl) dX12_film_25 (kIP (fun v79 q80 => ?_))
      refine j_if_eq hx 52 dX12_film_28 rfl (by omega) (fun h81 => ?_) (fun h81 => ?_)
      · skip
        refine j_iconst hx dX12_film_52 ?_
        refine j_iconst hx dX12_film_53 ?_
        refine j_iconst hx dX12_film_54 ?_
        have g82 : s1 a 0 = 0 := (by rw [e_s1, zU_eq])
        have g83 : s1 a 3 = s0 a 3 := (by rw [e_s1, zU_at (Or.inr (by decide))])
        have f84 := zf hS0 ha (k := 3) rfl
        have g85 : s1 a 4 = s0 a 4 := (by rw [e_s1, zU_at (Or.inr (by decide))])
        have f86 := zf hS0 ha (k := 4) rfl
        have g87 : s1 a 5 = s0 a 5 := (by rw [e_s1, zU_at (Or.inr (by decide))])
        have f88 := zf hS0 ha (k := 5) rfl
        have g89 : s1 a 7 = s0 a 7 := (by rw [e_s1, zU_at (Or.inr (by decide))])
        have f90 := zf hS0 ha (k := 7) rfl
        have g91 : s1 a 21 = s0 a 21 := (by rw [e_s1, zU_at (Or.inr (by decide))])
        have f92 := zf hS0 ha (k := 21) rfl
        have g93 : s1 a 22 = s0 a 22 := (by rw [e_s1, zU_at (Or.inr (by decide))])
        have f94 := zf hS0 ha (k := 22) rfl
        have g95 : s1 a 23 = s0 a 23 := (by rw [e_s1, zU_at (Or.inr (by decide))])
        have f96 := zf hS0 ha (k := 23) rfl
        have g97 : s1 a 24 = s0 a 24 := (by rw [e_s1, zU_at (Or.inr (by decide))])
        have f98 := zf hS0 ha (k := 24) rfl
        have g99 : s1 a 38 = s0 a 38 := (by rw [e_s1, zU_at (Or.inr (by decide))])
        have f100 := zf hS0 ha (k := 38) rfl
        have g101 : s1 a 51 = s0 a 51 := (by rw [e_s1, zU_at (Or.inr (by decide))])
        have f102 := zf hS0 ha (k := 51) rfl
        have g103 : s1 a 52 = s0 a 52 := (by rw [e_s1, zU_at (Or.inr (by decide))])
        have f104 := zf hS0 ha (k := 52) rfl
        refine j_callV hx hG (c_X12_may_f hst a 0 1 1) lk_RX12_240 ha (by decide) rfl rfl rfl rfl [.int (zI 0), .int (zI 1), .int (zI 1)] ⟨rfl, hG, hS_s1, ha, (by omega), (by omega), (by omega), (((by rw [e_s1, zU_eq]) : s1 a 0 = 0).trans (by omega))⟩ rfl rfl ⟨by decide, by decide⟩ ⟨by decide, by decide⟩ (k2 := 0) (n2 := 0) rfl rfl (Nat.le_of_ble_eq_true rfl) dX12_film_55 (kIM (fun v105 s4 hS_s4 hF_s4 q106 => ?_))
        refine j_if_ne hx 63 dX12_film_58 rfl (by omega) (fun h107 => absurd h107 (by omega)) (fun h107 => ?_)
        refine j_iconst hx dX12_film_61 ?_
        have f108 := zf hS_s4 ha (k := 3) rfl
        have f109 := zf hS_s4 ha (k := 4) rfl
        have f110 := zf hS_s4 ha (k := 5) rfl
        have f111 := zf hS_s4 ha (k := 7) rfl
        have f112 := zf hS_s4 ha (k := 21) rfl
        have f113 := zf hS_s4 ha (k := 22) rfl
        have f114 := zf hS_s4 ha (k := 23) rfl
        have f115 := zf hS_s4 ha (k := 24) rfl
        have f116 := zf hS_s4 ha (k := 38) rfl
        have f117 := zf hS_s4 ha (k := 51) rfl
        have f118 := zf hS_s4 ha (k := 52) rfl
        exact j_iret hx hq rfl (by decide) (by decide) dX12_film_62 ⟨0, rfl, rfl, hS_s4, (zFr_t (zFr_u zFr_rf e_s1 ha (by decide)) hF_s4 (by decide)), ⟨(by omega), by omega, by omega, by omega, by omega, by omega, by omega, by omega, by omega, by omega, by omega, by omega⟩⟩
      · skip
        refine j_iload hx 4 dX12_film_31 rfl ?_
        refine j_bipush hx dX12_film_33 rfl ?_
        refine j_icmp_gt hx 52 dX12_film_35 rfl (by omega) ⟨by decide, by decide⟩ (fun h119 => ?_) (fun h119 => ?_)
        · skip
          refine j_iconst hx dX12_film_52 ?_
          refine j_iconst hx dX12_film_53 ?_
          refine j_iconst hx dX12_film_54 ?_
          have g120 : s1 a 0 = 0 := (by rw [e_s1, zU_eq])
          have g121 : s1 a 3 = s0 a 3 := (by rw [e_s1, zU_at (Or.inr (by decide))])
          have f122 := zf hS0 ha (k := 3) rfl
          have g123 : s1 a 4 = s0 a 4 := (by rw [e_s1, zU_at (Or.inr (by decide))])
          have f124 := zf hS0 ha (k := 4) rfl
          have g125 : s1 a 5 = s0 a 5 := (by rw [e_s1, zU_at (Or.inr (by decide))])
          have f126 := zf hS0 ha (k := 5) rfl
          have g127 : s1 a 7 = s0 a 7 := (by rw [e_s1, zU_at (Or.inr (by decide))])
          have f128 := zf hS0 ha (k := 7) rfl
          have g129 : s1 a 21 = s0 a 21 := (by rw [e_s1, zU_at (Or.inr (by decide))])
          have f130 := zf hS0 ha (k := 21) rfl
          have g131 : s1 a 22 = s0 a 22 := (by rw [e_s1, zU_at (Or.inr (by decide))])
          have f132 := zf hS0 ha (k := 22) rfl
          have g133 : s1 a 23 = s0 a 23 := (by rw [e_s1, zU_at (Or.inr (by decide))])
          have f134 := zf hS0 ha (k := 23) rfl
          have g135 : s1 a 24 = s0 a 24 := (by rw [e_s1, zU_at (Or.inr (by decide))])
          have f136 := zf hS0 ha (k := 24) rfl
          have g137 : s1 a 38 = s0 a 38 := (by rw [e_s1, zU_at (Or.inr (by decide))])
          have f138 := zf hS0 ha (k := 38) rfl
          have g139 : s1 a 51 = s0 a 51 := (by rw [e_s1, zU_at (Or.inr (by decide))])
          have f140 := zf hS0 ha (k := 51) rfl
          have g141 : s1 a 52 = s0 a 52 := (by rw [e_s1, zU_at (Or.inr (by decide))])
          have f142 := zf hS0 ha (k := 52) rfl
          refine j_callV hx hG (c_X12_may_f hst a 0 1 1) lk_RX12_240 ha (by decide) rfl rfl rfl rfl [.int (zI 0), .int (zI 1), .int (zI 1)] ⟨rfl, hG, hS_s1, ha, (by omega), (by omega), (by omega), (((by rw [e_s1, zU_eq]) : s1 a 0 = 0).trans (by omega))⟩ rfl rfl ⟨by decide, by decide⟩ ⟨by decide, by decide⟩ (k2 := 0) (n2 := 0) rfl rfl (Nat.le_of_ble_eq_true rfl) dX12_film_55 (kIM (fun v143 s5 hS_s5 hF_s5 q144 => ?_))
          refine j_if_ne hx 63 dX12_film_58 rfl (by omega) (fun h145 => absurd h145 (by omega)) (fun h145 => ?_)
          refine j_iconst hx dX12_film_61 ?_
          have f146 := zf hS_s5 ha (k := 3) rfl
          have f147 := zf hS_s5 ha (k := 4) rfl
          have f148 := zf hS_s5 ha (k := 5) rfl
          have f149 := zf hS_s5 ha (k := 7) rfl
          have f150 := zf hS_s5 ha (k := 21) rfl
          have f151 := zf hS_s5 ha (k := 22) rfl
          have f152 := zf hS_s5 ha (k := 23) rfl
          have f153 := zf hS_s5 ha (k := 24) rfl
          have f154 := zf hS_s5 ha (k := 38) rfl
          have f155 := zf hS_s5 ha (k := 51) rfl
          have f156 := zf hS_s5 ha (k := 52) rfl
          exact j_iret hx hq rfl (by decide) (by decide) dX12_film_62 ⟨0, rfl, rfl, hS_s5, (zFr_t (zFr_u zFr_rf e_s1 ha (by decide)) hF_s5 (by decide)), ⟨(by omega), by omega, by omega, by omega, by omega, by omega, by omega, by omega, by omega, by omega, by omega, by omega⟩⟩
        · skip
          refine j_iload hx 5 dX12_film_38 rfl ?_
          refine j_iconst hx dX12_film_40 ?_
          refine j_iconst hx dX12_film_41 ?_
          refine j_callS hx (c_X12_within hst x5 0 2) lk_RX12_314 [.int (zI x5), .int (zI 0), .int (zI 2)] ⟨rfl, hG, hS_s1, (by omega), (by omega), (by omega)⟩ rfl rfl ⟨by decide, by decide⟩ ⟨by decide, by decide⟩ (k2 := 0) (n2 := 0) rfl rfl (Nat.le_of_ble_eq_true rfl) dX12_film_42 (kIP (fun v157 q158 => ?_))
          refine j_if_eq hx 52 dX12_film_45 rfl (by omega) (fun h159 => ?_) (fun h159 => ?_)
          · skip
            refine j_iconst hx dX12_film_52 ?_
            refine j_iconst hx dX12_film_53 ?_
            refine j_iconst hx dX12_film_54 ?_
            have g160 : s1 a 0 = 0 := (by rw [e_s1, zU_eq])
            have g161 : s1 a 3 = s0 a 3 := (by rw [e_s1, zU_at (Or.inr (by decide))])
            have f162 := zf hS0 ha (k := 3) rfl
            have g163 : s1 a 4 = s0 a 4 := (by rw [e_s1, zU_at (Or.inr (by decide))])
            have f164 := zf hS0 ha (k := 4) rfl
            have g165 : s1 a 5 = s0 a 5 := (by rw [e_s1, zU_at (Or.inr (by decide))])
            have f166 := zf hS0 ha (k := 5) rfl
            have g167 : s1 a 7 = s0 a 7 := (by rw [e_s1, zU_at (Or.inr (by decide))])
            have f168 := zf hS0 ha (k := 7) rfl
            have g169 : s1 a 21 = s0 a 21 := (by rw [e_s1, zU_at (Or.inr (by decide))])
            have f170 := zf hS0 ha (k := 21) rfl
            have g171 : s1 a 22 = s0 a 22 := (by rw [e_s1, zU_at (Or.inr (by decide))])
            have f172 := zf hS0 ha (k := 22) rfl
            have g173 : s1 a 23 = s0 a 23 := (by rw [e_s1, zU_at (Or.inr (by decide))])
            have f174 := zf hS0 ha (k := 23) rfl
            have g175 : s1 a 24 = s0 a 24 := (by rw [e_s1, zU_at (Or.inr (by decide))])
            have f176 := zf hS0 ha (k := 24) rfl
            have g177 : s1 a 38 = s0 a 38 := (by rw [e_s1, zU_at (Or.inr (by decide))])
            have f178 := zf hS0 ha (k := 38) rfl
            have g179 : s1 a 51 = s0 a 51 := (by rw [e_s1, zU_at (Or.inr (by decide))])
            have f180 := zf hS0 ha (k := 51) rfl
            have g181 : s1 a 52 = s0 a 52 := (by rw [e_s1, zU_at (Or.inr (by decide))])
            have f182 := zf hS0 ha (k := 52) rfl
            refine j_callV hx hG (c_X12_may_f hst a 0 1 1) lk_RX12_240 ha (by decide) rfl rfl rfl rfl [.int (zI 0), .int (zI 1), .int (zI 1)] ⟨rfl, hG, hS_s1, ha, (by omega), (by omega), (by omega), (((by rw [e_s1, zU_eq]) : s1 a 0 = 0).trans (by omega))⟩ rfl rfl ⟨by decide, by decide⟩ ⟨by decide, by decide⟩ (k2 := 0) (n2 := 0) rfl rfl (Nat.le_of_ble_eq_true rfl) dX12_film_55 (kIM (fun v183 s6 hS_s6 hF_s6 q184 => ?_))
            refine j_if_ne hx 63 dX12_film_58 rfl (by omega) (fun h185 => absurd h185 (by omega)) (fun h185 => ?_)
            refine j_iconst hx dX12_film_61 ?_
            have f186 := zf hS_s6 ha (k := 3) rfl
            have f187 := zf hS_s6 ha (k := 4) rfl
            have f188 := zf hS_s6 ha (k := 5) rfl
            have f189 := zf hS_s6 ha (k := 7) rfl
            have f190 := zf hS_s6 ha (k := 21) rfl
            have f191 := zf hS_s6 ha (k := 22) rfl
            have f192 := zf hS_s6 ha (k := 23) rfl
            have f193 := zf hS_s6 ha (k := 24) rfl
            have f194 := zf hS_s6 ha (k := 38) rfl
            have f195 := zf hS_s6 ha (k := 51) rfl
            have f196 := zf hS_s6 ha (k := 52) rfl
            exact j_iret hx hq rfl (by decide) (by decide) dX12_film_62 ⟨0, rfl, rfl, hS_s6, (zFr_t (zFr_u zFr_rf e_s1 ha (by decide)) hF_s6 (by decide)), ⟨(by omega), by omega, by omega, by omega, by omega, by omega, by omega, by omega, by omega, by omega, by omega, by omega⟩⟩
          · skip
            refine j_iconst hx dX12_film_48 ?_
            refine j_goto hx 53 dX12_film_49 rfl ?_
            refine j_iconst hx dX12_film_53 ?_
            refine j_iconst hx dX12_film_54 ?_
            have g197 : s1 a 0 = 0 := (by rw [e_s1, zU_eq])
            refine j_callV hx hG (c_X12_may_t hst a 1 1 1) lk_RX12_240 ha (by decide) rfl rfl rfl rfl [.int (zI 1), .int (zI 1), .int (zI 1)] ⟨rfl, hG, hS_s1, ha, (by omega), (by omega), (by omega), (((by rw [e_s1, zU_eq]) : s1 a 0 = 0).trans (by omega))⟩ rfl rfl ⟨by decide, by decide⟩ ⟨by decide, by decide⟩ (k2 := 0) (n2 := 0) rfl rfl (Nat.le_of_ble_eq_true rfl) dX12_film_55 (kIP (fun v198 q199 => ?_))
            refine j_if_ne hx 63 dX12_film_58 rfl (by omega) (fun h200 => ?_) (fun h200 => absurd h200 (by omega))
            refine j_iconst hx dX12_film_63 ?_
            refine j_istore hx [(6, .int (zI 0)), (0, .ref a), (1, .int (zI x1)), (2, .int (zI x2)), (3, .int (zI x3)), (4, .int (zI x4)), (5, .int (zI x5))] dX12_film_64 (by decide) rfl ?_
            refine j_iconst hx dX12_film_66 ?_
            refine j_istore hx [(7, .int (zI 0)), (6, .int (zI 0)), (0, .ref a), (1, .int (zI x1)), (2, .int (zI x2)), (3, .int (zI x3)), (4, .int (zI x4)), (5, .int (zI x5))] dX12_film_67 (by decide) rfl ?_
            refine j_iload_n hx 3 dX12_film_69 rfl ?_
            refine j_istore hx [(8, .int (zI x1)), (7, .int (zI 0)), (6, .int (zI 0)), (0, .ref a), (1, .int (zI x1)), (2, .int (zI x2)), (3, .int (zI x3)), (4, .int (zI x4)), (5, .int (zI x5))] dX12_film_70 (by decide) rfl ?_
            have c72_7 : ∀ (m_c72_7 : Nat) (v201 : Int) (v202 : Int) (v203 : Int), 2147483648 - v203 < m_c72_7 → ((-2147483648) ≤ v201 ∧ v201 ≤ 2147483647) → ((-2147483648) ≤ v202 ∧ v202 ≤ 2147483647) → ((-2147483648) ≤ v203 ∧ v203 ≤ 2147483647) → JJ X E 10 G s1 0 0 [(1, .int (zI x1)), (2, .int (zI x2)), (3, .int (zI x3)), (4, .int (zI x4)), (5, .int (zI x5)), (6, .int (zI v201)), (7, .int (zI v202)), (8, .int (zI v203))] 72 [] := by
              intro m_c72_7
              induction m_c72_7 with
              | zero => intro v201 v202 v203 hm_c72_7 fA8 fA9 fA10; exfalso; omega
              | succ m_c72_7 ih_c72_7 => 
                intro v201 v202 v203 hm_c72_7 fA8 fA9 fA10
                refine j_iload hx 7 dX12_film_72 rfl ?_
                refine j_iload_n hx 1 dX12_film_74 rfl ?_
                refine j_icmp_gt hx 134 dX12_film_75 rfl (by omega) (by omega) (fun h204 => ?_) (fun h204 => ?_)
                · skip
                  refine j_iload hx 4 dX12_film_134 rfl ?_
                  refine j_if_ne hx 144 dX12_film_136 rfl (by omega) (fun h205 => ?_) (fun h205 => ?_)
                  · skip
                    refine j_iload hx 4 dX12_film_144 rfl ?_
                    refine j_iconst hx dX12_film_146 ?_
                    refine j_icmp_ne hx 155 dX12_film_147 rfl (by omega) ⟨by decide, by decide⟩ (fun h206 => ?_) (fun h206 => ?_)
                    · skip
                      refine j_iload_n hx 1 dX12_film_155 rfl ?_
                      refine j_iload_n hx 0 dX12_film_156 rfl ?_
                      refine j_isub hx (r := x2 - x1) dX12_film_157 rfl ?_
                      refine j_iconst hx dX12_film_158 ?_
                      refine j_iadd hx (r := x2 - x1 + 1) dX12_film_159 (by omega) ?_
                      refine j_iload hx 3 dX12_film_160 rfl ?_
                      refine j_iload_n hx 2 dX12_film_162 rfl ?_
                      refine j_isub hx (r := x4 - x3) dX12_film_163 rfl ?_
                      refine j_iconst hx dX12_film_164 ?_
                      refine j_iadd hx (r := x4 - x3 + 1) dX12_film_165 (by omega) ?_
                      refine j_imul hx (r := ((x2 - x1 + 1) * (x4 - x3 + 1))) dX12_film_166 rfl ?_
                      have f207 : 0 ≤ ((x2 - x1 + 1) * (x4 - x3 + 1)) ∧ ((x2 - x1 + 1) * (x4 - x3 + 1)) ≤ 100 * 100 := zmulnn (by omega) (by omega)
                      have g208 : s1 a 3 = s0 a 3 := (by rw [e_s1, zU_at (Or.inr (by decide))])
                      have f209 := zf hS0 ha (k := 3) rfl
                      have g210 : s1 a 4 = s0 a 4 := (by rw [e_s1, zU_at (Or.inr (by decide))])
                      have f211 := zf hS0 ha (k := 4) rfl
                      have g212 : s1 a 5 = s0 a 5 := (by rw [e_s1, zU_at (Or.inr (by decide))])
                      have f213 := zf hS0 ha (k := 5) rfl
                      have g214 : s1 a 7 = s0 a 7 := (by rw [e_s1, zU_at (Or.inr (by decide))])
                      have f215 := zf hS0 ha (k := 7) rfl
                      have g216 : s1 a 21 = s0 a 21 := (by rw [e_s1, zU_at (Or.inr (by decide))])
                      have f217 := zf hS0 ha (k := 21) rfl
                      have g218 : s1 a 22 = s0 a 22 := (by rw [e_s1, zU_at (Or.inr (by decide))])
                      have f219 := zf hS0 ha (k := 22) rfl
                      have g220 : s1 a 23 = s0 a 23 := (by rw [e_s1, zU_at (Or.inr (by decide))])
                      have f221 := zf hS0 ha (k := 23) rfl
                      have g222 : s1 a 24 = s0 a 24 := (by rw [e_s1, zU_at (Or.inr (by decide))])
                      have f223 := zf hS0 ha (k := 24) rfl
                      have g224 : s1 a 38 = s0 a 38 := (by rw [e_s1, zU_at (Or.inr (by decide))])
                      have f225 := zf hS0 ha (k := 38) rfl
                      have g226 : s1 a 51 = s0 a 51 := (by rw [e_s1, zU_at (Or.inr (by decide))])
                      have f227 := zf hS0 ha (k := 51) rfl
                      have g228 : s1 a 52 = s0 a 52 := (by rw [e_s1, zU_at (Or.inr (by decide))])
                      have f229 := zf hS0 ha (k := 52) rfl
                      exact j_iret hx hq rfl (by decide) (by decide) dX12_film_167 ⟨((x2 - x1 + 1) * (x4 - x3 + 1)), rfl, rfl, hS_s1, (zFr_u zFr_rf e_s1 ha (by decide)), ⟨(by omega), by omega, by omega, by omega, by omega, by omega, by omega, by omega, by omega, by omega, by omega, by omega⟩⟩
                    · skip
                      refine j_iload hx 6 dX12_film_150 rfl ?_
                      refine j_goto hx 167 dX12_film_152 rfl ?_
                      have g230 : s1 a 3 = s0 a 3 := (by rw [e_s1, zU_at (Or.inr (by decide))])
                      have f231 := zf hS0 ha (k := 3) rfl
                      have g232 : s1 a 4 = s0 a 4 := (by rw [e_s1, zU_at (Or.inr (by decide))])
                      have f233 := zf hS0 ha (k := 4) rfl
                      have g234 : s1 a 5 = s0 a 5 := (by rw [e_s1, zU_at (Or.inr (by decide))])
                      have f235 := zf hS0 ha (k := 5) rfl
                      have g236 : s1 a 7 = s0 a 7 := (by rw [e_s1, zU_at (Or.inr (by decide))])
                      have f237 := zf hS0 ha (k := 7) rfl
                      have g238 : s1 a 21 = s0 a 21 := (by rw [e_s1, zU_at (Or.inr (by decide))])
                      have f239 := zf hS0 ha (k := 21) rfl
                      have g240 : s1 a 22 = s0 a 22 := (by rw [e_s1, zU_at (Or.inr (by decide))])
                      have f241 := zf hS0 ha (k := 22) rfl
                      have g242 : s1 a 23 = s0 a 23 := (by rw [e_s1, zU_at (Or.inr (by decide))])
                      have f243 := zf hS0 ha (k := 23) rfl
                      have g244 : s1 a 24 = s0 a 24 := (by rw [e_s1, zU_at (Or.inr (by decide))])
                      have f245 := zf hS0 ha (k := 24) rfl
                      have g246 : s1 a 38 = s0 a 38 := (by rw [e_s1, zU_at (Or.inr (by decide))])
                      have f247 := zf hS0 ha (k := 38) rfl
                      have g248 : s1 a 51 = s0 a 51 := (by rw [e_s1, zU_at (Or.inr (by decide))])
                      have f249 := zf hS0 ha (k := 51) rfl
                      have g250 : s1 a 52 = s0 a 52 := (by rw [e_s1, zU_at (Or.inr (by decide))])
                      have f251 := zf hS0 ha (k := 52) rfl
                      exact j_iret hx hq rfl (by decide) (by decide) dX12_film_167 ⟨v202, rfl, rfl, hS_s1, (zFr_u zFr_rf e_s1 ha (by decide)), ⟨(by omega), by omega, by omega, by omega, by omega, by omega, by omega, by omega, by omega, by omega, by omega, by omega⟩⟩
                  · skip
                    refine j_iload hx 5 dX12_film_139 rfl ?_
                    refine j_goto hx 167 dX12_film_141 rfl ?_
                    have g252 : s1 a 3 = s0 a 3 := (by rw [e_s1, zU_at (Or.inr (by decide))])
                    have f253 := zf hS0 ha (k := 3) rfl
                    have g254 : s1 a 4 = s0 a 4 := (by rw [e_s1, zU_at (Or.inr (by decide))])
                    have f255 := zf hS0 ha (k := 4) rfl
                    have g256 : s1 a 5 = s0 a 5 := (by rw [e_s1, zU_at (Or.inr (by decide))])
                    have f257 := zf hS0 ha (k := 5) rfl
                    have g258 : s1 a 7 = s0 a 7 := (by rw [e_s1, zU_at (Or.inr (by decide))])
                    have f259 := zf hS0 ha (k := 7) rfl
                    have g260 : s1 a 21 = s0 a 21 := (by rw [e_s1, zU_at (Or.inr (by decide))])
                    have f261 := zf hS0 ha (k := 21) rfl
                    have g262 : s1 a 22 = s0 a 22 := (by rw [e_s1, zU_at (Or.inr (by decide))])
                    have f263 := zf hS0 ha (k := 22) rfl
                    have g264 : s1 a 23 = s0 a 23 := (by rw [e_s1, zU_at (Or.inr (by decide))])
                    have f265 := zf hS0 ha (k := 23) rfl
                    have g266 : s1 a 24 = s0 a 24 := (by rw [e_s1, zU_at (Or.inr (by decide))])
                    have f267 := zf hS0 ha (k := 24) rfl
                    have g268 : s1 a 38 = s0 a 38 := (by rw [e_s1, zU_at (Or.inr (by decide))])
                    have f269 := zf hS0 ha (k := 38) rfl
                    have g270 : s1 a 51 = s0 a 51 := (by rw [e_s1, zU_at (Or.inr (by decide))])
                    have f271 := zf hS0 ha (k := 51) rfl
                    have g272 : s1 a 52 = s0 a 52 := (by rw [e_s1, zU_at (Or.inr (by decide))])
                    have f273 := zf hS0 ha (k := 52) rfl
                    exact j_iret hx hq rfl (by decide) (by decide) dX12_film_167 ⟨v201, rfl, rfl, hS_s1, (zFr_u zFr_rf e_s1 ha (by decide)), ⟨(by omega), by omega, by omega, by omega, by omega, by omega, by omega, by omega, by omega, by omega, by omega, by omega⟩⟩
                · skip
                  refine j_iload_n hx 2 dX12_film_78 rfl ?_
                  refine j_istore hx [(9, .int (zI x3)), (1, .int (zI x1)), (2, .int (zI x2)), (3, .int (zI x3)), (4, .int (zI x4)), (5, .int (zI x5)), (6, .int (zI v201)), (7, .int (zI v202)), (8, .int (zI v203))] dX12_film_79 (by decide) rfl ?_
                  have c81_11 : ∀ (m_c81_11 : Nat) (v274 : Int) (v275 : Int) (v276 : Int), 2147483648 - v276 < m_c81_11 → ((-2147483648) ≤ v274 ∧ v274 ≤ 2147483647) → ((-2147483648) ≤ v275 ∧ v275 ≤ 2147483647) → ((-2147483648) ≤ v276 ∧ v276 ≤ 2147483647) → JJ X E 10 G s1 0 0 [(1, .int (zI x1)), (2, .int (zI x2)), (3, .int (zI x3)), (4, .int (zI x4)), (5, .int (zI x5)), (6, .int (zI v274)), (7, .int (zI v275)), (8, .int (zI v203)), (9, .int (zI v276))] 81 [] := by
                    intro m_c81_11
                    induction m_c81_11 with
                    | zero => intro v274 v275 v276 hm_c81_11 fA12 fA13 fA14; exfalso; omega
                    | succ m_c81_11 ih_c81_11 => 
                      intro v274 v275 v276 hm_c81_11 fA12 fA13 fA14
                      refine j_iload hx 8 dX12_film_81 rfl ?_
                      refine j_iload hx 3 dX12_film_83 rfl ?_
                      refine j_icmp_gt hx 128 dX12_film_85 rfl (by omega) (by omega) (fun h277 => ?_) (fun h277 => ?_)
                      · skip
                        refine j_iinc hx 7 [(8, .int (zI (v203 + 1))), (1, .int (zI x1)), (2, .int (zI x2)), (3, .int (zI x3)), (4, .int (zI x4)), (5, .int (zI x5)), (6, .int (zI v274)), (7, .int (zI v275)), (9, .int (zI v276))] dX12_film_128 rfl (by omega) (by decide) rfl ?_
                        refine j_goto hx 72 dX12_film_131 rfl ?_
                        exact j_sub [1, 2, 3, 4, 5, 6, 7, 0] [(1, .int (zI x1)), (2, .int (zI x2)), (3, .int (zI x3)), (4, .int (zI x4)), (5, .int (zI x5)), (6, .int (zI v274)), (7, .int (zI v275)), (8, .int (zI (v203 + 1)))] rfl (ih_c72_7 v274 v275 (v203 + 1) (by omega) (by omega) (by omega) (by omega))
                      · skip
                        refine j_iload hx 5 dX12_film_88 rfl ?_
                        refine j_iload hx 7 dX12_film_90 rfl ?_
                        refine j_iload hx 8 dX12_film_92 rfl ?_
                        refine j_icmp_ge hx 101 dX12_film_94 rfl (by omega) (by omega) (fun h278 => ?_) (fun h278 => ?_)
                        · skip
                          refine j_iconst hx dX12_film_101 ?_
                          refine j_iadd hx (r := v274) dX12_film_102 (by omega) ?_
                          refine j_istore hx [(6, .int (zI v274)), (1, .int (zI x1)), (2, .int (zI x2)), (3, .int (zI x3)), (4, .int (zI x4)), (5, .int (zI x5)), (7, .int (zI v275)), (8, .int (zI v203)), (9, .int (zI v276))] dX12_film_103 (by decide) rfl ?_
                          refine j_iload hx 6 dX12_film_105 rfl ?_
                          refine j_iload hx 7 dX12_film_107 rfl ?_
                          refine j_iload hx 8 dX12_film_109 rfl ?_
                          refine j_icmp_ne hx 118 dX12_film_111 rfl (by omega) (by omega) (fun h279 => ?_) (fun h279 => ?_)
                          · skip
                            refine j_iconst hx dX12_film_118 ?_
                            refine j_iadd hx (r := v275) dX12_film_119 (by omega) ?_
                            refine j_istore hx [(7, .int (zI v275)), (6, .int (zI v274)), (1, .int (zI x1)), (2, .int (zI x2)), (3, .int (zI x3)), (4, .int (zI x4)), (5, .int (zI x5)), (8, .int (zI v203)), (9, .int (zI v276))] dX12_film_120 (by decide) rfl ?_
                            refine j_iinc hx 8 [(9, .int (zI (v276 + 1))), (7, .int (zI v275)), (6, .int (zI v274)), (1, .int (zI x1)), (2, .int (zI x2)), (3, .int (zI x3)), (4, .int (zI x4)), (5, .int (zI x5)), (8, .int (zI v203))] dX12_film_122 rfl (by omega) (by decide) rfl ?_
                            refine j_goto hx 81 dX12_film_125 rfl ?_
                            exact j_sub [3, 4, 5, 6, 7, 2, 1, 8, 0] [(1, .int (zI x1)), (2, .int (zI x2)), (3, .int (zI x3)), (4, .int (zI x4)), (5, .int (zI x5)), (6, .int (zI v274)), (7, .int (zI v275)), (8, .int (zI v203)), (9, .int (zI (v276 + 1)))] rfl (ih_c81_11 v274 v275 (v276 + 1) (by omega) (by omega) (by omega) (by omega))
                          · skip
                            refine j_iconst hx dX12_film_114 ?_
                            refine j_goto hx 119 dX12_film_115 rfl ?_
                            refine j_iadd hx (r := v275 + 1) dX12_film_119 rfl ?_
                            refine j_norm (fun v280 f281 f282 f283 => ?_)
                            refine j_istore hx [(7, .int (zI v280)), (6, .int (zI v274)), (1, .int (zI x1)), (2, .int (zI x2)), (3, .int (zI x3)), (4, .int (zI x4)), (5, .int (zI x5)), (8, .int (zI v203)), (9, .int (zI v276))] dX12_film_120 (by decide) rfl ?_
                            refine j_iinc hx 8 [(9, .int (zI (v276 + 1))), (7, .int (zI v280)), (6, .int (zI v274)), (1, .int (zI x1)), (2, .int (zI x2)), (3, .int (zI x3)), (4, .int (zI x4)), (5, .int (zI x5)), (8, .int (zI v203))] dX12_film_122 rfl (by omega) (by decide) rfl ?_
                            refine j_goto hx 81 dX12_film_125 rfl ?_
                            exact j_sub [3, 4, 5, 6, 7, 2, 1, 8, 0] [(1, .int (zI x1)), (2, .int (zI x2)), (3, .int (zI x3)), (4, .int (zI x4)), (5, .int (zI x5)), (6, .int (zI v274)), (7, .int (zI v280)), (8, .int (zI v203)), (9, .int (zI (v276 + 1)))] rfl (ih_c81_11 v274 v280 (v276 + 1) (by omega) (by omega) (by omega) (by omega))
                        · skip
                          refine j_iconst hx dX12_film_97 ?_
                          refine j_goto hx 102 dX12_film_98 rfl ?_
                          refine j_iadd hx (r := v274 + 1) dX12_film_102 rfl ?_
                          refine j_norm (fun v284 f285 f286 f287 => ?_)
                          refine j_istore hx [(6, .int (zI v284)), (1, .int (zI x1)), (2, .int (zI x2)), (3, .int (zI x3)), (4, .int (zI x4)), (5, .int (zI x5)), (7, .int (zI v275)), (8, .int (zI v203)), (9, .int (zI v276))] dX12_film_103 (by decide) rfl ?_
                          refine j_iload hx 6 dX12_film_105 rfl ?_
                          refine j_iload hx 7 dX12_film_107 rfl ?_
                          refine j_iload hx 8 dX12_film_109 rfl ?_
                          refine j_icmp_ne hx 118 dX12_film_111 rfl (by omega) (by omega) (fun h288 => ?_) (fun h288 => ?_)
                          · skip
                            refine j_iconst hx dX12_film_118 ?_
                            refine j_iadd hx (r := v275) dX12_film_119 (by omega) ?_
                            refine j_istore hx [(7, .int (zI v275)), (6, .int (zI v284)), (1, .int (zI x1)), (2, .int (zI x2)), (3, .int (zI x3)), (4, .int (zI x4)), (5, .int (zI x5)), (8, .int (zI v203)), (9, .int (zI v276))] dX12_film_120 (by decide) rfl ?_
                            refine j_iinc hx 8 [(9, .int (zI (v276 + 1))), (7, .int (zI v275)), (6, .int (zI v284)), (1, .int (zI x1)), (2, .int (zI x2)), (3, .int (zI x3)), (4, .int (zI x4)), (5, .int (zI x5)), (8, .int (zI v203))] dX12_film_122 rfl (by omega) (by decide) rfl ?_
                            refine j_goto hx 81 dX12_film_125 rfl ?_
                            exact j_sub [3, 4, 5, 6, 7, 2, 1, 8, 0] [(1, .int (zI x1)), (2, .int (zI x2)), (3, .int (zI x3)), (4, .int (zI x4)), (5, .int (zI x5)), (6, .int (zI v284)), (7, .int (zI v275)), (8, .int (zI v203)), (9, .int (zI (v276 + 1)))] rfl (ih_c81_11 v284 v275 (v276 + 1) (by omega) (by omega) (by omega) (by omega))
                          · skip
                            refine j_iconst hx dX12_film_114 ?_
                            refine j_goto hx 119 dX12_film_115 rfl ?_
                            refine j_iadd hx (r := v275 + 1) dX12_film_119 rfl ?_
                            refine j_norm (fun v289 f290 f291 f292 => ?_)
                            refine j_istore hx [(7, .int (zI v289)), (6, .int (zI v284)), (1, .int (zI x1)), (2, .int (zI x2)), (3, .int (zI x3)), (4, .int (zI x4)), (5, .int (zI x5)), (8, .int (zI v203)), (9, .int (zI v276))] dX12_film_120 (by decide) rfl ?_
                            refine j_iinc hx 8 [(9, .int (zI (v276 + 1))), (7, .int (zI v289)), (6, .int (zI v284)), (1, .int (zI x1)), (2, .int (zI x2)), (3, .int (zI x3)), (4, .int (zI x4)), (5, .int (zI x5)), (8, .int (zI v203))] dX12_film_122 rfl (by omega) (by decide) rfl ?_
                            refine j_goto hx 81 dX12_film_125 rfl ?_
                            exact j_sub [3, 4, 5, 6, 7, 2, 1, 8, 0] [(1, .int (zI x1)), (2, .int (zI x2)), (3, .int (zI x3)), (4, .int (zI x4)), (5, .int (zI x5)), (6, .int (zI v284)), (7, .int (zI v289)), (8, .int (zI v203)), (9, .int (zI (v276 + 1)))] rfl (ih_c81_11 v284 v289 (v276 + 1) (by omega) (by omega) (by omega) (by omega))
                  exact j_sub [1, 2, 3, 4, 5, 6, 7, 8, 0] [(1, .int (zI x1)), (2, .int (zI x2)), (3, .int (zI x3)), (4, .int (zI x4)), (5, .int (zI x5)), (6, .int (zI v201)), (7, .int (zI v202)), (8, .int (zI v203)), (9, .int (zI x3))] rfl (c81_11 (2147483648 * 4) v201 v202 x3 (by omega) (by omega) (by omega) (by omega))
            exact j_sub [4, 5, 6, 7, 8, 2, 1, 0] [(1, .int (zI x1)), (2, .int (zI x2)), (3, .int (zI x3)), (4, .int (zI x4)), (5, .int (zI x5)), (6, .int (zI 0)), (7, .int (zI 0)), (8, .int (zI x1))] rfl (c72_7 (2147483648 * 4) 0 0 x1 (by omega) (by omega) (by omega) (by omega))

set_option maxHeartbeats 4000000 in
set_option maxRecDepth 20000 in
theorem c_X12_laws {E : zE} {l : Launch} (hst : l.stackTraces = false) (a : Nat) (x1 : Int) (x2 : Int) : Con E l yX12_laws cX12_laws 3 (some .int) { frames := 7, cells := 0, slots := 0, locals := 162 } (fun G s vs => vs = [.ref a, .int (zI x1), .int (zI x2)] ∧ zGK G ∧ zSK G s ∧ (gT G a = 13) ∧ ((-2147483648) ≤ x1 ∧ x1 ≤ 2147483647) ∧ ((-2147483648) ≤ x2 ∧ x2 ≤ 2147483647) ∧ (zRva (s (gP G a 34)) (s (gP G a 35)) (s (gP G a 37))) ∧ (zc (s (gP G a 27)) ≤ 60) ∧ (s (gP G a 27) 488 ≤ 520000)) (fun G s _ => pI (fun r G2 s2 => G2 = G ∧ zSK G s2 ∧ zFr [13, 71, 84, 87, 95, 98, 99, 100, 101, 102, 103] G s s2 ∧ ((-2147483648) ≤ r ∧ r ≤ 2147483647) ∧ zc (s2 (gP G a 27)) = zc (s (gP G a 27)) ∧ s2 (gP G a 27) 488 = s (gP G a 27) 488 ∧ s2 a 3 = s a 3 ∧ s2 a 4 = s a 4 ∧ s2 a 5 = s a 5 ∧ s2 a 7 = s a 7 ∧ s2 a 21 = s a 21 ∧ s2 a 22 = s a 22 ∧ s2 a 23 = s a 23 ∧ s2 a 24 = s a 24 ∧ s2 a 38 = s a 38)) := by
  refine Con.mk hst (by decide) (fun G s vs h => by rw [h.1]; exact Nat.le_of_ble_eq_true rfl) ?_
  rintro X G s0 vs ⟨rfl, hG, hS0, ha, hx1, hx2, e0, e1, e2⟩ rfl hx hq
  show JJ X E 3 G s0 0 0 [(0, .ref a), (1, .int (zI x1)), (2, .int (zI x2))] 0 []
  refine j_aload_n hx 0 dX12_laws_0 rfl ?_
  refine j_iconst hx dX12_laws_1 ?_
  refine p13_0 hx hG ha kf_RX12_3 dX12_laws_2 ?_
  obtain ⟨s1, e_s1⟩ : ∃ z, z = zU s0 a 0 0 := ⟨_, rfl⟩
  rw [← e_s1]
  have hS_s1 : zSK G s1 := by rw [e_s1]; exact zSK_F hS0 ha rfl rfl rfl (by omega)
  refine j_aload_n hx 0 dX12_laws_5 rfl ?_
  refine j_iload_n hx 1 dX12_laws_6 rfl ?_
  refine j_iconst hx dX12_laws_7 ?_
  refine j_bipush hx dX12_laws_8 rfl ?_
  refine j_callS hx (c_X12_within hst x1 0 8) lk_RX12_314 [.int (zI x1), .int (zI 0), .int (zI 8)] ⟨rfl, hG, hS_s1, (by omega), (by omega), (by omega)⟩ rfl rfl ⟨by decide, by decide⟩ ⟨by decide, by decide⟩ (k2 := 0) (n2 := 0) rfl rfl (Nat.le_of_ble_eq_true rfl) dX12_laws_10 (kIP (fun v1 q2 => ?_))
  refine j_if_eq hx 29 dX12_laws_13 rfl (by omega) (fun h3 => ?_) (fun h3 => ?_)
  · skip
    refine j_iconst hx dX12_laws_29 ?_
    refine j_iconst hx dX12_laws_30 ?_
    refine j_iconst hx dX12_laws_31 ?_
    have g4 : s1 a 0 = 0 := (by rw [e_s1, zU_eq])
    have g5 : s1 a 3 = s0 a 3 := (by rw [e_s1, zU_at (Or.inr (by decide))])
    have f6 := zf hS0 ha (k := 3) rfl
    have g7 : s1 a 4 = s0 a 4 := (by rw [e_s1, zU_at (Or.inr (by decide))])
    have f8 := zf hS0 ha (k := 4) rfl
    have g9 : s1 a 5 = s0 a 5 := (by rw [e_s1, zU_at (Or.inr (by decide))])
    have f10 := zf hS0 ha (k := 5) rfl
    have g11 : s1 a 7 = s0 a 7 := (by rw [e_s1, zU_at (Or.inr (by decide))])
    have f12 := zf hS0 ha (k := 7) rfl
    have g13 : s1 a 21 = s0 a 21 := (by rw [e_s1, zU_at (Or.inr (by decide))])
    have f14 := zf hS0 ha (k := 21) rfl
    have g15 : s1 a 22 = s0 a 22 := (by rw [e_s1, zU_at (Or.inr (by decide))])
    have f16 := zf hS0 ha (k := 22) rfl
    have g17 : s1 a 23 = s0 a 23 := (by rw [e_s1, zU_at (Or.inr (by decide))])
    have f18 := zf hS0 ha (k := 23) rfl
    have g19 : s1 a 24 = s0 a 24 := (by rw [e_s1, zU_at (Or.inr (by decide))])
    have f20 := zf hS0 ha (k := 24) rfl
    have g21 : s1 a 38 = s0 a 38 := (by rw [e_s1, zU_at (Or.inr (by decide))])
    have f22 := zf hS0 ha (k := 38) rfl
    have g23 : s1 a 51 = s0 a 51 := (by rw [e_s1, zU_at (Or.inr (by decide))])
    have f24 := zf hS0 ha (k := 51) rfl
    have g25 : s1 a 52 = s0 a 52 := (by rw [e_s1, zU_at (Or.inr (by decide))])
    have f26 := zf hS0 ha (k := 52) rfl
    refine j_callV hx hG (c_X12_may_f hst a 0 1 1) lk_RX12_240 ha (by decide) rfl rfl rfl rfl [.int (zI 0), .int (zI 1), .int (zI 1)] ⟨rfl, hG, hS_s1, ha, (by omega), (by omega), (by omega), (((by rw [e_s1, zU_eq]) : s1 a 0 = 0).trans (by omega))⟩ rfl rfl ⟨by decide, by decide⟩ ⟨by decide, by decide⟩ (k2 := 0) (n2 := 0) rfl rfl (Nat.le_of_ble_eq_true rfl) dX12_laws_32 (kIM (fun v27 s2 hS_s2 hF_s2 q28 => ?_))
    refine j_if_ne hx 40 dX12_laws_35 rfl (by omega) (fun h29 => absurd h29 (by omega)) (fun h29 => ?_)
    refine j_iconst hx dX12_laws_38 ?_
    have g30 : zc (s2 (gP G a 27)) = zc (s0 (gP G a 27)) := by rw [(zFr_g hF_s2 (zr (k := 27) (t2 := 84) hG ha rfl) (by decide)), e_s1, zU_ne (zne (zr (k := 27) (t2 := 84) hG ha rfl) ha (by decide))]
    have g31 : s2 (gP G a 27) 488 = s0 (gP G a 27) 488 := (by rw [(zFr_g hF_s2 (zr (k := 27) (t2 := 84) hG ha rfl) (by decide)), e_s1, zU_at (Or.inl (zne ha (zr (k := 27) (t2 := 84) hG ha rfl) (by decide)))])
    have f32 := zf hS_s2 ha (k := 3) rfl
    have f33 := zf hS_s2 ha (k := 4) rfl
    have f34 := zf hS_s2 ha (k := 5) rfl
    have f35 := zf hS_s2 ha (k := 7) rfl
    have f36 := zf hS_s2 ha (k := 21) rfl
    have f37 := zf hS_s2 ha (k := 22) rfl
    have f38 := zf hS_s2 ha (k := 23) rfl
    have f39 := zf hS_s2 ha (k := 24) rfl
    have f40 := zf hS_s2 ha (k := 38) rfl
    exact j_iret hx hq rfl (by decide) (by decide) dX12_laws_39 ⟨0, rfl, rfl, hS_s2, (zFr_t (zFr_u zFr_rf e_s1 ha (by decide)) hF_s2 (by decide)), ⟨(by omega), by omega, by omega, by omega, by omega, by omega, by omega, by omega, by omega, by omega, by omega, by omega⟩⟩
  · skip
    refine j_iload_n hx 2 dX12_laws_16 rfl ?_
    refine j_iconst hx dX12_laws_17 ?_
    refine j_iconst hx dX12_laws_18 ?_
    refine j_callS hx (c_X12_within hst x2 0 1) lk_RX12_314 [.int (zI x2), .int (zI 0), .int (zI 1)] ⟨rfl, hG, hS_s1, (by omega), (by omega), (by omega)⟩ rfl rfl ⟨by decide, by decide⟩ ⟨by decide, by decide⟩ (k2 := 0) (n2 := 0) rfl rfl (Nat.le_of_ble_eq_true rfl) dX12_laws_19 (kIP (fun v41 q42 => ?_))
    refine j_if_eq hx 29 dX12_laws_22 rfl (by omega) (fun h43 => ?_) (fun h43 => ?_)
    · skip
      refine j_iconst hx dX12_laws_29 ?_
      refine j_iconst hx dX12_laws_30 ?_
      refine j_iconst hx dX12_laws_31 ?_
      have g44 : s1 a 0 = 0 := (by rw [e_s1, zU_eq])
      have g45 : s1 a 3 = s0 a 3 := (by rw [e_s1, zU_at (Or.inr (by decide))])
      have f46 := zf hS0 ha (k := 3) rfl
      have g47 : s1 a 4 = s0 a 4 := (by rw [e_s1, zU_at (Or.inr (by decide))])
      have f48 := zf hS0 ha (k := 4) rfl
      have g49 : s1 a 5 = s0 a 5 := (by rw [e_s1, zU_at (Or.inr (by decide))])
      have f50 := zf hS0 ha (k := 5) rfl
      have g51 : s1 a 7 = s0 a 7 := (by rw [e_s1, zU_at (Or.inr (by decide))])
      have f52 := zf hS0 ha (k := 7) rfl
      have g53 : s1 a 21 = s0 a 21 := (by rw [e_s1, zU_at (Or.inr (by decide))])
      have f54 := zf hS0 ha (k := 21) rfl
      have g55 : s1 a 22 = s0 a 22 := (by rw [e_s1, zU_at (Or.inr (by decide))])
      have f56 := zf hS0 ha (k := 22) rfl
      have g57 : s1 a 23 = s0 a 23 := (by rw [e_s1, zU_at (Or.inr (by decide))])
      have f58 := zf hS0 ha (k := 23) rfl
      have g59 : s1 a 24 = s0 a 24 := (by rw [e_s1, zU_at (Or.inr (by decide))])
      have f60 := zf hS0 ha (k := 24) rfl
      have g61 : s1 a 38 = s0 a 38 := (by rw [e_s1, zU_at (Or.inr (by decide))])
      have f62 := zf hS0 ha (k := 38) rfl
      have g63 : s1 a 51 = s0 a 51 := (by rw [e_s1, zU_at (Or.inr (by decide))])
      have f64 := zf hS0 ha (k := 51) rfl
      have g65 : s1 a 52 = s0 a 52 := (by rw [e_s1, zU_at (Or.inr (by decide))])
      have f66 := zf hS0 ha (k := 52) rfl
      refine j_callV hx hG (c_X12_may_f hst a 0 1 1) lk_RX12_240 ha (by decide) rfl rfl rfl rfl [.int (zI 0), .int (zI 1), .int (zI 1)] ⟨rfl, hG, hS_s1, ha, (by omega), (by omega), (by omega), (((by rw [e_s1, zU_eq]) : s1 a 0 = 0).trans (by omega))⟩ rfl rfl ⟨by decide, by decide⟩ ⟨by decide, by decide⟩ (k2 := 0) (n2 := 0) rfl rfl (Nat.le_of_ble_eq_true rfl) dX12_laws_32 (kIM (fun v67 s3 hS_s3 hF_s3 q68 => ?_))
      refine j_if_ne hx 40 dX12_laws_35 rfl (by omega) (fun h69 => absurd h69 (by omega)) (fun h69 => ?_)
      refine j_iconst hx dX12_laws_38 ?_
      have g70 : zc (s3 (gP G a 27)) = zc (s0 (gP G a 27)) := by rw [(zFr_g hF_s3 (zr (k := 27) (t2 := 84) hG ha rfl) (by decide)), e_s1, zU_ne (zne (zr (k := 27) (t2 := 84) hG ha rfl) ha (by decide))]
      have g71 : s3 (gP G a 27) 488 = s0 (gP G a 27) 488 := (by rw [(zFr_g hF_s3 (zr (k := 27) (t2 := 84) hG ha rfl) (by decide)), e_s1, zU_at (Or.inl (zne ha (zr (k := 27) (t2 := 84) hG ha rfl) (by decide)))])
      have f72 := zf hS_s3 ha (k := 3) rfl
      have f73 := zf hS_s3 ha (k := 4) rfl
      have f74 := zf hS_s3 ha (k := 5) rfl
      have f75 := zf hS_s3 ha (k := 7) rfl
      have f76 := zf hS_s3 ha (k := 21) rfl
      have f77 := zf hS_s3 ha (k := 22) rfl
      have f78 := zf hS_s3 ha (k := 23) rfl
      have f79 := zf hS_s3 ha (k := 24) rfl
      have f80 := zf hS_s3 ha (k := 38) rfl
      exact j_iret hx hq rfl (by decide) (by decide) dX12_laws_39 ⟨0, rfl, rfl, hS_s3, (zFr_t (zFr_u zFr_rf e_s1 ha (by decide)) hF_s3 (by decide)), ⟨(by omega), by omega, by omega, by omega, by omega, by omega, by omega, by omega, by omega, by omega, by omega, by omega⟩⟩
    · skip
      refine j_iconst hx dX12_laws_25 ?_
      refine j_goto hx 30 dX12_laws_26 rfl ?_
      refine j_iconst hx dX12_laws_30 ?_
      refine j_iconst hx dX12_laws_31 ?_
      have g81 : s1 a 0 = 0 := (by rw [e_s1, zU_eq])
      refine j_callV hx hG (c_X12_may_t hst a 1 1 1) lk_RX12_240 ha (by decide) rfl rfl rfl rfl [.int (zI 1), .int (zI 1), .int (zI 1)] ⟨rfl, hG, hS_s1, ha, (by omega), (by omega), (by omega), (((by rw [e_s1, zU_eq]) : s1 a 0 = 0).trans (by omega))⟩ rfl rfl ⟨by decide, by decide⟩ ⟨by decide, by decide⟩ (k2 := 0) (n2 := 0) rfl rfl (Nat.le_of_ble_eq_true rfl) dX12_laws_32 (kIP (fun v82 q83 => ?_))
      refine j_if_ne hx 40 dX12_laws_35 rfl (by omega) (fun h84 => ?_) (fun h84 => absurd h84 (by omega))
      refine j_aload_n hx 0 dX12_laws_40 rfl ?_
      have g85 : zc (s1 (gP G a 27)) = zc (s0 (gP G a 27)) := by rw [e_s1, zU_ne (zne (zr (k := 27) (t2 := 84) hG ha rfl) ha (by decide))]
      have g86 : s1 (gP G a 27) 488 = s0 (gP G a 27) 488 := (by rw [e_s1, zU_at (Or.inl (zne ha (zr (k := 27) (t2 := 84) hG ha rfl) (by decide)))])
      refine j_callV hx hG (c_X12_keeps hst a) lk_RX12_444 ha (by decide) rfl rfl rfl rfl [] ⟨rfl, hG, hS_s1, ha⟩ rfl rfl ⟨by decide, by decide⟩ ⟨by decide, by decide⟩ (k2 := 0) (n2 := 0) rfl rfl (Nat.le_of_ble_eq_true rfl) dX12_laws_41 (kVM (fun s4 hS_s4 hF_s4 q88 => ?_))
      refine j_aload_n hx 0 dX12_laws_44 rfl ?_
      refine g13_27 hx hG ha kf_RX12_56 dX12_laws_45 ?_
      refine j_sipush hx dX12_laws_48 rfl ?_
      refine j_iload_n hx 1 dX12_laws_51 rfl ?_
      refine j_iconst hx dX12_laws_52 ?_
      refine j_idiv hx dX12_laws_53 (by omega) ⟨by decide, by decide⟩ (by decide) (fun v89 f90 f91 f92 => ?_)
      refine j_iast hx hG (zr (k := 27) (t2 := 84) hG ha rfl) (by decide) rfl (zlen hG (zr (k := 27) (t2 := 84) hG ha rfl) (n := 515) rfl rfl) (by omega) (by omega) (j := 491) rfl dX12_laws_54 ?_
      obtain ⟨s5, e_s5⟩ : ∃ z, z = zU s4 (gP G a 27) 491 v89 := ⟨_, rfl⟩
      rw [← e_s5]
      have hS_s5 : zSK G s5 := by rw [e_s5]; exact zSK_a hS_s4 (zr (k := 27) (t2 := 84) hG ha rfl) rfl rfl (congrArg some (axS_7 491 (by omega))) (by omega)
      have g96 : zc (s4 (gP G a 27)) = zc (s0 (gP G a 27)) := by rw [(zFr_g hF_s4 (zr (k := 27) (t2 := 84) hG ha rfl) (by decide)), e_s1, zU_ne (zne (zr (k := 27) (t2 := 84) hG ha rfl) ha (by decide))]
      have z95 : zc (s5 (gP G a 27)) = zc (s4 (gP G a 27)) := by rw [e_s5]; exact zc_o (by omega)
      refine j_aload_n hx 0 dX12_laws_55 rfl ?_
      refine g13_27 hx hG ha kf_RX12_56 dX12_laws_56 ?_
      refine j_sipush hx dX12_laws_59 rfl ?_
      refine j_iload_n hx 1 dX12_laws_62 rfl ?_
      refine j_iconst hx dX12_laws_63 ?_
      refine j_irem hx dX12_laws_64 (by omega) ⟨by decide, by decide⟩ (by decide) (fun v97 f98 f99 f100 f101 => ?_)
      refine j_iast hx hG (zr (k := 27) (t2 := 84) hG ha rfl) (by decide) rfl (zlen hG (zr (k := 27) (t2 := 84) hG ha rfl) (n := 515) rfl rfl) (by omega) (by omega) (j := 492) rfl dX12_laws_65 ?_
      obtain ⟨s6, e_s6⟩ : ∃ z, z = zU s5 (gP G a 27) 492 v97 := ⟨_, rfl⟩
      rw [← e_s6]
      have hS_s6 : zSK G s6 := by rw [e_s6]; exact zSK_a hS_s5 (zr (k := 27) (t2 := 84) hG ha rfl) rfl rfl (congrArg some (axS_7 492 (by omega))) (by omega)
      have z103 : zc (s6 (gP G a 27)) = zc (s5 (gP G a 27)) := by rw [e_s6]; exact zc_o (by omega)
      refine j_aload_n hx 0 dX12_laws_66 rfl ?_
      have g104 : s6 (gP G a 27) 488 = s0 (gP G a 27) 488 := (by rw [e_s6, zU_at (Or.inr (by decide)), e_s5, zU_at (Or.inr (by decide)), (zFr_g hF_s4 (zr (k := 27) (t2 := 84) hG ha rfl) (by decide)), e_s1, zU_at (Or.inl (zne ha (zr (k := 27) (t2 := 84) hG ha rfl) (by decide)))])
      have g105 : s6 a 0 = 0 := (by rw [e_s6, zU_at (Or.inl (zne (zr (k := 27) (t2 := 84) hG ha rfl) ha (by decide))), e_s5, zU_at (Or.inl (zne (zr (k := 27) (t2 := 84) hG ha rfl) ha (by decide))), (zFr_g hF_s4 ha (by decide)), e_s1, zU_eq])
      have g106 : s6 a 3 = s0 a 3 := (by rw [e_s6, zU_at (Or.inl (zne (zr (k := 27) (t2 := 84) hG ha rfl) ha (by decide))), e_s5, zU_at (Or.inl (zne (zr (k := 27) (t2 := 84) hG ha rfl) ha (by decide))), (zFr_g hF_s4 ha (by decide)), e_s1, zU_at (Or.inr (by decide))])
      have f107 := zf hS0 ha (k := 3) rfl
      have g108 : s6 a 4 = s0 a 4 := (by rw [e_s6, zU_at (Or.inl (zne (zr (k := 27) (t2 := 84) hG ha rfl) ha (by decide))), e_s5, zU_at (Or.inl (zne (zr (k := 27) (t2 := 84) hG ha rfl) ha (by decide))), (zFr_g hF_s4 ha (by decide)), e_s1, zU_at (Or.inr (by decide))])
      have f109 := zf hS0 ha (k := 4) rfl
      have g110 : s6 a 5 = s0 a 5 := (by rw [e_s6, zU_at (Or.inl (zne (zr (k := 27) (t2 := 84) hG ha rfl) ha (by decide))), e_s5, zU_at (Or.inl (zne (zr (k := 27) (t2 := 84) hG ha rfl) ha (by decide))), (zFr_g hF_s4 ha (by decide)), e_s1, zU_at (Or.inr (by decide))])
      have f111 := zf hS0 ha (k := 5) rfl
      have g112 : s6 a 7 = s0 a 7 := (by rw [e_s6, zU_at (Or.inl (zne (zr (k := 27) (t2 := 84) hG ha rfl) ha (by decide))), e_s5, zU_at (Or.inl (zne (zr (k := 27) (t2 := 84) hG ha rfl) ha (by decide))), (zFr_g hF_s4 ha (by decide)), e_s1, zU_at (Or.inr (by decide))])
      have f113 := zf hS0 ha (k := 7) rfl
      have g114 : s6 a 21 = s0 a 21 := (by rw [e_s6, zU_at (Or.inl (zne (zr (k := 27) (t2 := 84) hG ha rfl) ha (by decide))), e_s5, zU_at (Or.inl (zne (zr (k := 27) (t2 := 84) hG ha rfl) ha (by decide))), (zFr_g hF_s4 ha (by decide)), e_s1, zU_at (Or.inr (by decide))])
      have f115 := zf hS0 ha (k := 21) rfl
      have g116 : s6 a 22 = s0 a 22 := (by rw [e_s6, zU_at (Or.inl (zne (zr (k := 27) (t2 := 84) hG ha rfl) ha (by decide))), e_s5, zU_at (Or.inl (zne (zr (k := 27) (t2 := 84) hG ha rfl) ha (by decide))), (zFr_g hF_s4 ha (by decide)), e_s1, zU_at (Or.inr (by decide))])
      have f117 := zf hS0 ha (k := 22) rfl
      have g118 : s6 a 23 = s0 a 23 := (by rw [e_s6, zU_at (Or.inl (zne (zr (k := 27) (t2 := 84) hG ha rfl) ha (by decide))), e_s5, zU_at (Or.inl (zne (zr (k := 27) (t2 := 84) hG ha rfl) ha (by decide))), (zFr_g hF_s4 ha (by decide)), e_s1, zU_at (Or.inr (by decide))])
      have f119 := zf hS0 ha (k := 23) rfl
      have g120 : s6 a 24 = s0 a 24 := (by rw [e_s6, zU_at (Or.inl (zne (zr (k := 27) (t2 := 84) hG ha rfl) ha (by decide))), e_s5, zU_at (Or.inl (zne (zr (k := 27) (t2 := 84) hG ha rfl) ha (by decide))), (zFr_g hF_s4 ha (by decide)), e_s1, zU_at (Or.inr (by decide))])
      have f121 := zf hS0 ha (k := 24) rfl
      have g122 : s6 a 38 = s0 a 38 := (by rw [e_s6, zU_at (Or.inl (zne (zr (k := 27) (t2 := 84) hG ha rfl) ha (by decide))), e_s5, zU_at (Or.inl (zne (zr (k := 27) (t2 := 84) hG ha rfl) ha (by decide))), (zFr_g hF_s4 ha (by decide)), e_s1, zU_at (Or.inr (by decide))])
      have f123 := zf hS0 ha (k := 38) rfl
      refine j_callV hx hG (c_X12_findEnds hst a) lk_RX12_447 ha (by decide) rfl rfl rfl rfl [] ⟨rfl, hG, hS_s6, ha, (by omega), ((by rw [e_s6, zU_ne (zne (zr (k := 34) (t2 := 91) hG ha rfl) (zr (k := 27) (t2 := 84) hG ha rfl) (by decide)), e_s5, zU_ne (zne (zr (k := 34) (t2 := 91) hG ha rfl) (zr (k := 27) (t2 := 84) hG ha rfl) (by decide)), (zFr_g hF_s4 (zr (k := 34) (t2 := 91) hG ha rfl) (by decide)), e_s1, zU_ne (zne (zr (k := 34) (t2 := 91) hG ha rfl) ha (by decide)), e_s6, zU_ne (zne (zr (k := 35) (t2 := 92) hG ha rfl) (zr (k := 27) (t2 := 84) hG ha rfl) (by decide)), e_s5, zU_ne (zne (zr (k := 35) (t2 := 92) hG ha rfl) (zr (k := 27) (t2 := 84) hG ha rfl) (by decide)), (zFr_g hF_s4 (zr (k := 35) (t2 := 92) hG ha rfl) (by decide)), e_s1, zU_ne (zne (zr (k := 35) (t2 := 92) hG ha rfl) ha (by decide)), e_s6, zU_ne (zne (zr (k := 37) (t2 := 94) hG ha rfl) (zr (k := 27) (t2 := 84) hG ha rfl) (by decide)), e_s5, zU_ne (zne (zr (k := 37) (t2 := 94) hG ha rfl) (zr (k := 27) (t2 := 84) hG ha rfl) (by decide)), (zFr_g hF_s4 (zr (k := 37) (t2 := 94) hG ha rfl) (by decide)), e_s1, zU_ne (zne (zr (k := 37) (t2 := 94) hG ha rfl) ha (by decide))]; exact e0)), (by omega)⟩ rfl rfl ⟨by decide, by decide⟩ ⟨by decide, by decide⟩ (k2 := 0) (n2 := 0) rfl rfl (Nat.le_of_ble_eq_true rfl) dX12_laws_67 (kVM (fun s7 hS_s7 hF_s7 q125 => ?_))
      refine j_aload_n hx 0 dX12_laws_70 rfl ?_
      have g126 : zc (s7 (gP G a 46)) = zc (s4 (gP G a 46)) := by rw [(zFr_g hF_s7 (zr (k := 46) (t2 := 99) hG ha rfl) (by decide)), e_s6, zU_ne (zne (zr (k := 46) (t2 := 99) hG ha rfl) (zr (k := 27) (t2 := 84) hG ha rfl) (by decide)), e_s5, zU_ne (zne (zr (k := 46) (t2 := 99) hG ha rfl) (zr (k := 27) (t2 := 84) hG ha rfl) (by decide))]
      have g127 : s7 (gP G a 46) 488 = s4 (gP G a 46) 488 := (by rw [(zFr_g hF_s7 (zr (k := 46) (t2 := 99) hG ha rfl) (by decide)), e_s6, zU_at (Or.inl (zne (zr (k := 27) (t2 := 84) hG ha rfl) (zr (k := 46) (t2 := 99) hG ha rfl) (by decide))), e_s5, zU_at (Or.inl (zne (zr (k := 27) (t2 := 84) hG ha rfl) (zr (k := 46) (t2 := 99) hG ha rfl) (by decide)))])
      refine j_callV hx hG (c_X12_back hst a) lk_RX12_450 ha (by decide) rfl rfl rfl rfl [] ⟨rfl, hG, hS_s7, ha⟩ rfl rfl ⟨by decide, by decide⟩ ⟨by decide, by decide⟩ (k2 := 0) (n2 := 0) rfl rfl (Nat.le_of_ble_eq_true rfl) dX12_laws_71 (kVM (fun s8 hS_s8 hF_s8 q129 => ?_))
      refine j_iload_n hx 2 dX12_laws_74 rfl ?_
      refine j_if_ne hx 85 dX12_laws_75 rfl (by omega) (fun h130 => ?_) (fun h130 => ?_)
      · skip
        refine j_aload_n hx 0 dX12_laws_85 rfl ?_
        have f131 := zf hS_s7 ha (k := 52) rfl
        refine g13_52 hx hG ha kf_RX12_429 (v := (s7 a 52)) (by rw [(zFr_g hF_s8 ha (by decide))]) dX12_laws_86 ?_
        have g132 : s8 a 3 = s7 a 3 := (by rw [(zFr_g hF_s8 ha (by decide))])
        have f133 := zf hS_s7 ha (k := 3) rfl
        have g134 : s8 a 4 = s7 a 4 := (by rw [(zFr_g hF_s8 ha (by decide))])
        have f135 := zf hS_s7 ha (k := 4) rfl
        have g136 : s8 a 5 = s7 a 5 := (by rw [(zFr_g hF_s8 ha (by decide))])
        have f137 := zf hS_s7 ha (k := 5) rfl
        have g138 : s8 a 7 = s7 a 7 := (by rw [(zFr_g hF_s8 ha (by decide))])
        have f139 := zf hS_s7 ha (k := 7) rfl
        have g140 : s8 a 21 = s7 a 21 := (by rw [(zFr_g hF_s8 ha (by decide))])
        have f141 := zf hS_s7 ha (k := 21) rfl
        have g142 : s8 a 22 = s7 a 22 := (by rw [(zFr_g hF_s8 ha (by decide))])
        have f143 := zf hS_s7 ha (k := 22) rfl
        have g144 : s8 a 23 = s7 a 23 := (by rw [(zFr_g hF_s8 ha (by decide))])
        have f145 := zf hS_s7 ha (k := 23) rfl
        have g146 : s8 a 24 = s7 a 24 := (by rw [(zFr_g hF_s8 ha (by decide))])
        have f147 := zf hS_s7 ha (k := 24) rfl
        have g148 : s8 a 38 = s7 a 38 := (by rw [(zFr_g hF_s8 ha (by decide))])
        have f149 := zf hS_s7 ha (k := 38) rfl
        exact j_iret hx hq rfl (by decide) (by decide) dX12_laws_89 ⟨(s7 a 52), rfl, rfl, hS_s8, (zFr_t (zFr_t (zFr_u (zFr_u (zFr_t (zFr_u zFr_rf e_s1 ha (by decide)) hF_s4 (by decide)) e_s5 (zr (k := 27) (t2 := 84) hG ha rfl) (by decide)) e_s6 (zr (k := 27) (t2 := 84) hG ha rfl) (by decide)) hF_s7 (by decide)) hF_s8 (by decide)), ⟨(by omega), by omega, by omega, by omega, by omega, by omega, by omega, by omega, by omega, by omega, by omega, by omega⟩⟩
      · skip
        refine j_aload_n hx 0 dX12_laws_78 rfl ?_
        have f150 := zf hS_s7 ha (k := 54) rfl
        refine g13_54 hx hG ha kf_RX12_441 (v := (s7 a 54)) (by rw [(zFr_g hF_s8 ha (by decide))]) dX12_laws_79 ?_
        refine j_goto hx 89 dX12_laws_82 rfl ?_
        have g151 : s8 a 3 = s7 a 3 := (by rw [(zFr_g hF_s8 ha (by decide))])
        have f152 := zf hS_s7 ha (k := 3) rfl
        have g153 : s8 a 4 = s7 a 4 := (by rw [(zFr_g hF_s8 ha (by decide))])
        have f154 := zf hS_s7 ha (k := 4) rfl
        have g155 : s8 a 5 = s7 a 5 := (by rw [(zFr_g hF_s8 ha (by decide))])
        have f156 := zf hS_s7 ha (k := 5) rfl
        have g157 : s8 a 7 = s7 a 7 := (by rw [(zFr_g hF_s8 ha (by decide))])
        have f158 := zf hS_s7 ha (k := 7) rfl
        have g159 : s8 a 21 = s7 a 21 := (by rw [(zFr_g hF_s8 ha (by decide))])
        have f160 := zf hS_s7 ha (k := 21) rfl
        have g161 : s8 a 22 = s7 a 22 := (by rw [(zFr_g hF_s8 ha (by decide))])
        have f162 := zf hS_s7 ha (k := 22) rfl
        have g163 : s8 a 23 = s7 a 23 := (by rw [(zFr_g hF_s8 ha (by decide))])
        have f164 := zf hS_s7 ha (k := 23) rfl
        have g165 : s8 a 24 = s7 a 24 := (by rw [(zFr_g hF_s8 ha (by decide))])
        have f166 := zf hS_s7 ha (k := 24) rfl
        have g167 : s8 a 38 = s7 a 38 := (by rw [(zFr_g hF_s8 ha (by decide))])
        have f168 := zf hS_s7 ha (k := 38) rfl
        exact j_iret hx hq rfl (by decide) (by decide) dX12_laws_89 ⟨(s7 a 54), rfl, rfl, hS_s8, (zFr_t (zFr_t (zFr_u (zFr_u (zFr_t (zFr_u zFr_rf e_s1 ha (by decide)) hF_s4 (by decide)) e_s5 (zr (k := 27) (t2 := 84) hG ha rfl) (by decide)) e_s6 (zr (k := 27) (t2 := 84) hG ha rfl) (by decide)) hF_s7 (by decide)) hF_s8 (by decide)), ⟨(by omega), by omega, by omega, by omega, by omega, by omega, by omega, by omega, by omega, by omega, by omega, by omega⟩⟩

set_option maxHeartbeats 4000000 in
set_option maxRecDepth 20000 in
theorem c_X12_right {E : zE} {l : Launch} (hst : l.stackTraces = false) (a : Nat) : Con E l yX12_right cX12_right 2 (some .int) { frames := 0, cells := 0, slots := 0, locals := 0 } (fun G s vs => vs = [.ref a] ∧ zGK G ∧ zSK G s ∧ (gT G a = 13)) (fun G s _ => pI (fun r G2 s2 => G2 = G ∧ zSK G s2 ∧ zFr [13] G s s2 ∧ ((-2147483648) ≤ r ∧ r ≤ 2147483647) ∧ s2 a 3 = s a 3 ∧ s2 a 4 = s a 4 ∧ s2 a 5 = s a 5 ∧ s2 a 7 = s a 7 ∧ s2 a 21 = s a 21 ∧ s2 a 22 = s a 22 ∧ s2 a 23 = s a 23 ∧ s2 a 24 = s a 24 ∧ s2 a 38 = s a 38 ∧ s2 a 51 = s a 51 ∧ s2 a 52 = s a 52)) := by
  refine Con.mk hst (by decide) (fun G s vs h => by rw [h.1]; exact Nat.le_of_ble_eq_true rfl) ?_
  rintro X G s0 vs ⟨rfl, hG, hS0, ha⟩ rfl hx hq
  show JJ X E 2 G s0 0 0 [(0, .ref a)] 0 []
  refine j_aload_n hx 0 dX12_right_0 rfl ?_
  refine j_iconst hx dX12_right_1 ?_
  refine p13_0 hx hG ha kf_RX12_3 dX12_right_2 ?_
  obtain ⟨s1, e_s1⟩ : ∃ z, z = zU s0 a 0 0 := ⟨_, rfl⟩
  rw [← e_s1]
  have hS_s1 : zSK G s1 := by rw [e_s1]; exact zSK_F hS0 ha rfl rfl rfl (by omega)
  refine j_iconst hx dX12_right_5 ?_
  refine j_istore_n hx [(1, .int (zI 0)), (0, .ref a)] dX12_right_6 (by decide) rfl ?_
  have c7_2 : ∀ (m_c7_2 : Nat) (v1 : Int), 2147483648 - v1 < m_c7_2 → (0 ≤ v1 ∧ v1 ≤ 12) → JJ X E 2 G s1 0 0 [(0, .ref a), (1, .int (zI v1))] 7 [] := by
    intro m_c7_2
    induction m_c7_2 with
    | zero => intro v1 hm_c7_2 fA3; exfalso; omega
    | succ m_c7_2 ih_c7_2 => 
      intro v1 hm_c7_2 fA3
      refine j_iload_n hx 1 dX12_right_7 rfl ?_
      refine j_aload_n hx 0 dX12_right_8 rfl ?_
      have f2 := zf hS0 ha (k := 41) rfl
      refine g13_41 hx hG ha kf_RX12_198 (v := (s0 a 41)) (by rw [e_s1, zU_at (Or.inr (by decide))]) dX12_right_9 ?_
      refine j_icmp_ge hx 66 dX12_right_12 rfl (by omega) (by omega) (fun h3 => ?_) (fun h3 => ?_)
      · skip
        refine j_iload_n hx 1 dX12_right_66 rfl ?_
        have g4 : s1 a 3 = s0 a 3 := (by rw [e_s1, zU_at (Or.inr (by decide))])
        have f5 := zf hS0 ha (k := 3) rfl
        have g6 : s1 a 4 = s0 a 4 := (by rw [e_s1, zU_at (Or.inr (by decide))])
        have f7 := zf hS0 ha (k := 4) rfl
        have g8 : s1 a 5 = s0 a 5 := (by rw [e_s1, zU_at (Or.inr (by decide))])
        have f9 := zf hS0 ha (k := 5) rfl
        have g10 : s1 a 7 = s0 a 7 := (by rw [e_s1, zU_at (Or.inr (by decide))])
        have f11 := zf hS0 ha (k := 7) rfl
        have g12 : s1 a 21 = s0 a 21 := (by rw [e_s1, zU_at (Or.inr (by decide))])
        have f13 := zf hS0 ha (k := 21) rfl
        have g14 : s1 a 22 = s0 a 22 := (by rw [e_s1, zU_at (Or.inr (by decide))])
        have f15 := zf hS0 ha (k := 22) rfl
        have g16 : s1 a 23 = s0 a 23 := (by rw [e_s1, zU_at (Or.inr (by decide))])
        have f17 := zf hS0 ha (k := 23) rfl
        have g18 : s1 a 24 = s0 a 24 := (by rw [e_s1, zU_at (Or.inr (by decide))])
        have f19 := zf hS0 ha (k := 24) rfl
        have g20 : s1 a 38 = s0 a 38 := (by rw [e_s1, zU_at (Or.inr (by decide))])
        have f21 := zf hS0 ha (k := 38) rfl
        have g22 : s1 a 51 = s0 a 51 := (by rw [e_s1, zU_at (Or.inr (by decide))])
        have f23 := zf hS0 ha (k := 51) rfl
        have g24 : s1 a 52 = s0 a 52 := (by rw [e_s1, zU_at (Or.inr (by decide))])
        have f25 := zf hS0 ha (k := 52) rfl
        exact j_iret hx hq rfl (by decide) (by decide) dX12_right_67 ⟨v1, rfl, rfl, hS_s1, (zFr_u zFr_rf e_s1 ha (by decide)), ⟨(by omega), by omega, by omega, by omega, by omega, by omega, by omega, by omega, by omega, by omega, by omega, by omega⟩⟩
      · skip
        refine j_aload_n hx 0 dX12_right_15 rfl ?_
        refine g13_40 hx hG ha kf_RX12_92 dX12_right_16 ?_
        refine j_iconst hx dX12_right_19 ?_
        refine j_iload_n hx 1 dX12_right_20 rfl ?_
        refine j_imul hx (r := 2 * v1) dX12_right_21 rfl ?_
        have f26 := zaI (j := (2 * v1).toNat) hS0 (zr (k := 40) (t2 := 97) hG ha rfl) rfl (zlen hG (zr (k := 40) (t2 := 97) hG ha rfl) (n := 24) rfl rfl) (show 0 ≤ 2 * v1 by omega) (by omega) rfl
        refine j_iald hx hG (zr (k := 40) (t2 := 97) hG ha rfl) (by decide) rfl (zlen hG (zr (k := 40) (t2 := 97) hG ha rfl) (n := 24) rfl rfl) (by omega) (by omega) (j := (2 * v1).toNat) rfl (v := (s0 (gP G a 40) (2 * v1).toNat)) (by rw [e_s1, zU_at (Or.inl (zne ha (zr (k := 40) (t2 := 97) hG ha rfl) (by decide)))]) dX12_right_22 ?_
        refine j_aload_n hx 0 dX12_right_23 rfl ?_
        refine g13_27 hx hG ha kf_RX12_56 dX12_right_24 ?_
        refine j_sipush hx dX12_right_27 rfl ?_
        have f27 := zaQ (j := 488) hS0 (zr (k := 27) (t2 := 84) hG ha rfl) (congrArg some (axS_4 488 (by omega))) (zlen hG (zr (k := 27) (t2 := 84) hG ha rfl) (n := 515) rfl rfl) (show 0 ≤ 488 by omega) (by omega) rfl
        refine j_iald hx hG (zr (k := 27) (t2 := 84) hG ha rfl) (by decide) rfl (zlen hG (zr (k := 27) (t2 := 84) hG ha rfl) (n := 515) rfl rfl) (by omega) (by omega) (j := 488) rfl (v := (s0 (gP G a 27) 488)) (by rw [e_s1, zU_at (Or.inl (zne ha (zr (k := 27) (t2 := 84) hG ha rfl) (by decide)))]) dX12_right_30 ?_
        refine j_icmp_ge hx 66 dX12_right_31 rfl (by omega) (by omega) (fun h28 => ?_) (fun h28 => ?_)
        · skip
          refine j_iload_n hx 1 dX12_right_66 rfl ?_
          have g29 : s1 a 3 = s0 a 3 := (by rw [e_s1, zU_at (Or.inr (by decide))])
          have f30 := zf hS0 ha (k := 3) rfl
          have g31 : s1 a 4 = s0 a 4 := (by rw [e_s1, zU_at (Or.inr (by decide))])
          have f32 := zf hS0 ha (k := 4) rfl
          have g33 : s1 a 5 = s0 a 5 := (by rw [e_s1, zU_at (Or.inr (by decide))])
          have f34 := zf hS0 ha (k := 5) rfl
          have g35 : s1 a 7 = s0 a 7 := (by rw [e_s1, zU_at (Or.inr (by decide))])
          have f36 := zf hS0 ha (k := 7) rfl
          have g37 : s1 a 21 = s0 a 21 := (by rw [e_s1, zU_at (Or.inr (by decide))])
          have f38 := zf hS0 ha (k := 21) rfl
          have g39 : s1 a 22 = s0 a 22 := (by rw [e_s1, zU_at (Or.inr (by decide))])
          have f40 := zf hS0 ha (k := 22) rfl
          have g41 : s1 a 23 = s0 a 23 := (by rw [e_s1, zU_at (Or.inr (by decide))])
          have f42 := zf hS0 ha (k := 23) rfl
          have g43 : s1 a 24 = s0 a 24 := (by rw [e_s1, zU_at (Or.inr (by decide))])
          have f44 := zf hS0 ha (k := 24) rfl
          have g45 : s1 a 38 = s0 a 38 := (by rw [e_s1, zU_at (Or.inr (by decide))])
          have f46 := zf hS0 ha (k := 38) rfl
          have g47 : s1 a 51 = s0 a 51 := (by rw [e_s1, zU_at (Or.inr (by decide))])
          have f48 := zf hS0 ha (k := 51) rfl
          have g49 : s1 a 52 = s0 a 52 := (by rw [e_s1, zU_at (Or.inr (by decide))])
          have f50 := zf hS0 ha (k := 52) rfl
          exact j_iret hx hq rfl (by decide) (by decide) dX12_right_67 ⟨v1, rfl, rfl, hS_s1, (zFr_u zFr_rf e_s1 ha (by decide)), ⟨(by omega), by omega, by omega, by omega, by omega, by omega, by omega, by omega, by omega, by omega, by omega, by omega⟩⟩
        · skip
          refine j_aload_n hx 0 dX12_right_34 rfl ?_
          refine g13_29 hx hG ha kf_RX12_62 dX12_right_35 ?_
          refine j_aload_n hx 0 dX12_right_38 rfl ?_
          refine g13_40 hx hG ha kf_RX12_92 dX12_right_39 ?_
          refine j_iconst hx dX12_right_42 ?_
          refine j_iload_n hx 1 dX12_right_43 rfl ?_
          refine j_imul hx (r := 2 * v1) dX12_right_44 rfl ?_
          refine j_iald hx hG (zr (k := 40) (t2 := 97) hG ha rfl) (by decide) rfl (zlen hG (zr (k := 40) (t2 := 97) hG ha rfl) (n := 24) rfl rfl) (by omega) (by omega) (j := (2 * v1).toNat) rfl (v := (s0 (gP G a 40) (2 * v1).toNat)) (by rw [e_s1, zU_at (Or.inl (zne ha (zr (k := 40) (t2 := 97) hG ha rfl) (by decide)))]) dX12_right_45 ?_
          have f51 := zaI (j := ((s0 (gP G a 40) (2 * v1).toNat)).toNat) hS0 (zr (k := 29) (t2 := 86) hG ha rfl) rfl (zlen hG (zr (k := 29) (t2 := 86) hG ha rfl) (n := 10000) rfl rfl) (show 0 ≤ (s0 (gP G a 40) (2 * v1).toNat) by omega) (by omega) rfl
          refine j_iald hx hG (zr (k := 29) (t2 := 86) hG ha rfl) (by decide) rfl (zlen hG (zr (k := 29) (t2 := 86) hG ha rfl) (n := 10000) rfl rfl) (by omega) (by omega) (j := ((s0 (gP G a 40) (2 * v1).toNat)).toNat) rfl (v := (s0 (gP G a 29) ((s0 (gP G a 40) (2 * v1).toNat)).toNat)) (by rw [e_s1, zU_at (Or.inl (zne ha (zr (k := 29) (t2 := 86) hG ha rfl) (by decide)))]) dX12_right_46 ?_
          refine j_aload_n hx 0 dX12_right_47 rfl ?_
          refine g13_40 hx hG ha kf_RX12_92 dX12_right_48 ?_
          refine j_iconst hx dX12_right_51 ?_
          refine j_iload_n hx 1 dX12_right_52 rfl ?_
          refine j_imul hx (r := 2 * v1) dX12_right_53 rfl ?_
          refine j_iconst hx dX12_right_54 ?_
          refine j_iadd hx (r := 2 * v1 + 1) dX12_right_55 (by omega) ?_
          have f52 := zaI (j := (2 * v1 + 1).toNat) hS0 (zr (k := 40) (t2 := 97) hG ha rfl) rfl (zlen hG (zr (k := 40) (t2 := 97) hG ha rfl) (n := 24) rfl rfl) (show 0 ≤ 2 * v1 + 1 by omega) (by omega) rfl
          refine j_iald hx hG (zr (k := 40) (t2 := 97) hG ha rfl) (by decide) rfl (zlen hG (zr (k := 40) (t2 := 97) hG ha rfl) (n := 24) rfl rfl) (by omega) (by omega) (j := (2 * v1 + 1).toNat) rfl (v := (s0 (gP G a 40) (2 * v1 + 1).toNat)) (by rw [e_s1, zU_at (Or.inl (zne ha (zr (k := 40) (t2 := 97) hG ha rfl) (by decide)))]) dX12_right_56 ?_
          refine j_icmp_ne hx 66 dX12_right_57 rfl (by omega) (by omega) (fun h53 => ?_) (fun h53 => ?_)
          · skip
            refine j_iload_n hx 1 dX12_right_66 rfl ?_
            have g54 : s1 a 3 = s0 a 3 := (by rw [e_s1, zU_at (Or.inr (by decide))])
            have f55 := zf hS0 ha (k := 3) rfl
            have g56 : s1 a 4 = s0 a 4 := (by rw [e_s1, zU_at (Or.inr (by decide))])
            have f57 := zf hS0 ha (k := 4) rfl
            have g58 : s1 a 5 = s0 a 5 := (by rw [e_s1, zU_at (Or.inr (by decide))])
            have f59 := zf hS0 ha (k := 5) rfl
            have g60 : s1 a 7 = s0 a 7 := (by rw [e_s1, zU_at (Or.inr (by decide))])
            have f61 := zf hS0 ha (k := 7) rfl
            have g62 : s1 a 21 = s0 a 21 := (by rw [e_s1, zU_at (Or.inr (by decide))])
            have f63 := zf hS0 ha (k := 21) rfl
            have g64 : s1 a 22 = s0 a 22 := (by rw [e_s1, zU_at (Or.inr (by decide))])
            have f65 := zf hS0 ha (k := 22) rfl
            have g66 : s1 a 23 = s0 a 23 := (by rw [e_s1, zU_at (Or.inr (by decide))])
            have f67 := zf hS0 ha (k := 23) rfl
            have g68 : s1 a 24 = s0 a 24 := (by rw [e_s1, zU_at (Or.inr (by decide))])
            have f69 := zf hS0 ha (k := 24) rfl
            have g70 : s1 a 38 = s0 a 38 := (by rw [e_s1, zU_at (Or.inr (by decide))])
            have f71 := zf hS0 ha (k := 38) rfl
            have g72 : s1 a 51 = s0 a 51 := (by rw [e_s1, zU_at (Or.inr (by decide))])
            have f73 := zf hS0 ha (k := 51) rfl
            have g74 : s1 a 52 = s0 a 52 := (by rw [e_s1, zU_at (Or.inr (by decide))])
            have f75 := zf hS0 ha (k := 52) rfl
            exact j_iret hx hq rfl (by decide) (by decide) dX12_right_67 ⟨v1, rfl, rfl, hS_s1, (zFr_u zFr_rf e_s1 ha (by decide)), ⟨(by omega), by omega, by omega, by omega, by omega, by omega, by omega, by omega, by omega, by omega, by omega, by omega⟩⟩
          · skip
            refine j_iinc hx 1 [(1, .int (zI (v1 + 1))), (0, .ref a)] dX12_right_60 rfl (by omega) (by decide) rfl ?_
            refine j_goto hx 7 dX12_right_63 rfl ?_
            exact j_sub [1, 0] [(0, .ref a), (1, .int (zI (v1 + 1)))] rfl (ih_c7_2 (v1 + 1) (by omega) (by omega))
  exact j_sub [1, 0] [(0, .ref a), (1, .int (zI 0))] rfl (c7_2 (2147483648 * 4) 0 (by omega) (by omega))

set_option maxHeartbeats 4000000 in
set_option maxRecDepth 20000 in
theorem c_X12_entry {E : zE} {l : Launch} (hst : l.stackTraces = false) (a : Nat) (x1 : Int) (x2 : Int) : Con E l yX12_entry cX12_entry 3 (some .int) { frames := 1, cells := 0, slots := 0, locals := 23 } (fun G s vs => vs = [.ref a, .int (zI x1), .int (zI x2)] ∧ zGK G ∧ zSK G s ∧ (gT G a = 13) ∧ ((-2147483648) ≤ x1 ∧ x1 ≤ 2147483647) ∧ ((-2147483648) ≤ x2 ∧ x2 ≤ 2147483647)) (fun G s _ => pI (fun r G2 s2 => G2 = G ∧ zSK G s2 ∧ zFr [13, 71] G s s2 ∧ ((-2147483648) ≤ r ∧ r ≤ 2147483647) ∧ s2 a 3 = s a 3 ∧ s2 a 4 = s a 4 ∧ s2 a 5 = s a 5 ∧ s2 a 7 = s a 7 ∧ s2 a 21 = s a 21 ∧ s2 a 22 = s a 22 ∧ s2 a 23 = s a 23 ∧ s2 a 24 = s a 24 ∧ s2 a 38 = s a 38 ∧ s2 a 51 = s a 51 ∧ s2 a 52 = s a 52)) := by
  refine Con.mk hst (by decide) (fun G s vs h => by rw [h.1]; exact Nat.le_of_ble_eq_true rfl) ?_
  rintro X G s0 vs ⟨rfl, hG, hS0, ha, hx1, hx2⟩ rfl hx hq
  show JJ X E 3 G s0 0 0 [(0, .ref a), (1, .int (zI x1)), (2, .int (zI x2))] 0 []
  refine j_aload_n hx 0 dX12_entry_0 rfl ?_
  refine j_iconst hx dX12_entry_1 ?_
  refine p13_0 hx hG ha kf_RX12_3 dX12_entry_2 ?_
  obtain ⟨s1, e_s1⟩ : ∃ z, z = zU s0 a 0 0 := ⟨_, rfl⟩
  rw [← e_s1]
  have hS_s1 : zSK G s1 := by rw [e_s1]; exact zSK_F hS0 ha rfl rfl rfl (by omega)
  refine j_aload_n hx 0 dX12_entry_5 rfl ?_
  refine j_iload_n hx 2 dX12_entry_6 rfl ?_
  refine j_iconst hx dX12_entry_7 ?_
  refine j_iconst hx dX12_entry_8 ?_
  refine j_callS hx (c_X12_within hst x2 0 1) lk_RX12_314 [.int (zI x2), .int (zI 0), .int (zI 1)] ⟨rfl, hG, hS_s1, (by omega), (by omega), (by omega)⟩ rfl rfl ⟨by decide, by decide⟩ ⟨by decide, by decide⟩ (k2 := 0) (n2 := 0) rfl rfl (Nat.le_of_ble_eq_true rfl) dX12_entry_9 (kIP (fun v1 q2 => ?_))
  refine j_iconst hx dX12_entry_12 ?_
  refine j_iconst hx dX12_entry_13 ?_
  rcases (show v1 = 0 ∨ v1 = 1 by omega) with rfl | rfl
  · skip
    have g4 : s1 a 0 = 0 := (by rw [e_s1, zU_eq])
    have g5 : s1 a 3 = s0 a 3 := (by rw [e_s1, zU_at (Or.inr (by decide))])
    have f6 := zf hS0 ha (k := 3) rfl
    have g7 : s1 a 4 = s0 a 4 := (by rw [e_s1, zU_at (Or.inr (by decide))])
    have f8 := zf hS0 ha (k := 4) rfl
    have g9 : s1 a 5 = s0 a 5 := (by rw [e_s1, zU_at (Or.inr (by decide))])
    have f10 := zf hS0 ha (k := 5) rfl
    have g11 : s1 a 7 = s0 a 7 := (by rw [e_s1, zU_at (Or.inr (by decide))])
    have f12 := zf hS0 ha (k := 7) rfl
    have g13 : s1 a 21 = s0 a 21 := (by rw [e_s1, zU_at (Or.inr (by decide))])
    have f14 := zf hS0 ha (k := 21) rfl
    have g15 : s1 a 22 = s0 a 22 := (by rw [e_s1, zU_at (Or.inr (by decide))])
    have f16 := zf hS0 ha (k := 22) rfl
    have g17 : s1 a 23 = s0 a 23 := (by rw [e_s1, zU_at (Or.inr (by decide))])
    have f18 := zf hS0 ha (k := 23) rfl
    have g19 : s1 a 24 = s0 a 24 := (by rw [e_s1, zU_at (Or.inr (by decide))])
    have f20 := zf hS0 ha (k := 24) rfl
    have g21 : s1 a 38 = s0 a 38 := (by rw [e_s1, zU_at (Or.inr (by decide))])
    have f22 := zf hS0 ha (k := 38) rfl
    have g23 : s1 a 51 = s0 a 51 := (by rw [e_s1, zU_at (Or.inr (by decide))])
    have f24 := zf hS0 ha (k := 51) rfl
    have g25 : s1 a 52 = s0 a 52 := (by rw [e_s1, zU_at (Or.inr (by decide))])
    have f26 := zf hS0 ha (k := 52) rfl
    refine j_callV hx hG (c_X12_may_f hst a 0 1 1) lk_RX12_240 ha (by decide) rfl rfl rfl rfl [.int (zI 0), .int (zI 1), .int (zI 1)] ⟨rfl, hG, hS_s1, ha, (by omega), (by omega), (by omega), (((by rw [e_s1, zU_eq]) : s1 a 0 = 0).trans (by omega))⟩ rfl rfl ⟨by decide, by decide⟩ ⟨by decide, by decide⟩ (k2 := 0) (n2 := 0) rfl rfl (Nat.le_of_ble_eq_true rfl) dX12_entry_14 (kIM (fun v27 s2 hS_s2 hF_s2 q28 => ?_))
    refine j_if_ne hx 22 dX12_entry_17 rfl (by omega) (fun h29 => absurd h29 (by omega)) (fun h29 => ?_)
    refine j_iconst hx dX12_entry_20 ?_
    have f30 := zf hS_s2 ha (k := 3) rfl
    have f31 := zf hS_s2 ha (k := 4) rfl
    have f32 := zf hS_s2 ha (k := 5) rfl
    have f33 := zf hS_s2 ha (k := 7) rfl
    have f34 := zf hS_s2 ha (k := 21) rfl
    have f35 := zf hS_s2 ha (k := 22) rfl
    have f36 := zf hS_s2 ha (k := 23) rfl
    have f37 := zf hS_s2 ha (k := 24) rfl
    have f38 := zf hS_s2 ha (k := 38) rfl
    have f39 := zf hS_s2 ha (k := 51) rfl
    have f40 := zf hS_s2 ha (k := 52) rfl
    exact j_iret hx hq rfl (by decide) (by decide) dX12_entry_21 ⟨0, rfl, rfl, hS_s2, (zFr_t (zFr_u zFr_rf e_s1 ha (by decide)) hF_s2 (by decide)), ⟨(by omega), by omega, by omega, by omega, by omega, by omega, by omega, by omega, by omega, by omega, by omega, by omega⟩⟩
  · skip
    have g41 : s1 a 0 = 0 := (by rw [e_s1, zU_eq])
    refine j_callV hx hG (c_X12_may_t hst a 1 1 1) lk_RX12_240 ha (by decide) rfl rfl rfl rfl [.int (zI 1), .int (zI 1), .int (zI 1)] ⟨rfl, hG, hS_s1, ha, (by omega), (by omega), (by omega), (((by rw [e_s1, zU_eq]) : s1 a 0 = 0).trans (by omega))⟩ rfl rfl ⟨by decide, by decide⟩ ⟨by decide, by decide⟩ (k2 := 0) (n2 := 0) rfl rfl (Nat.le_of_ble_eq_true rfl) dX12_entry_14 (kIP (fun v42 q43 => ?_))
    refine j_if_ne hx 22 dX12_entry_17 rfl (by omega) (fun h44 => ?_) (fun h44 => absurd h44 (by omega))
    refine j_iload_n hx 1 dX12_entry_22 rfl ?_
    refine j_iconst hx dX12_entry_23 ?_
    refine j_aload_n hx 0 dX12_entry_24 rfl ?_
    have f45 := zf hS0 ha (k := 41) rfl
    refine g13_41 hx hG ha kf_RX12_198 (v := (s0 a 41)) (by rw [e_s1, zU_at (Or.inr (by decide))]) dX12_entry_25 ?_
    refine j_iconst hx dX12_entry_28 ?_
    refine j_isub hx (r := (s0 a 41) - 1) dX12_entry_29 (by omega) ?_
    refine j_callS hx (c_X12_within hst x1 0 ((s0 a 41) - 1)) lk_RX12_314 [.int (zI x1), .int (zI 0), .int (zI ((s0 a 41) - 1))] ⟨rfl, hG, hS_s1, (by omega), (by omega), (by omega)⟩ rfl rfl ⟨by decide, by decide⟩ ⟨by decide, by decide⟩ (k2 := 0) (n2 := 0) rfl rfl (Nat.le_of_ble_eq_true rfl) dX12_entry_30 (kIP (fun v46 q47 => ?_))
    refine j_if_eq hx 49 dX12_entry_33 rfl (by omega) (fun h48 => ?_) (fun h48 => ?_)
    · skip
      refine j_iconst hx dX12_entry_49 ?_
      have g49 : s1 a 3 = s0 a 3 := (by rw [e_s1, zU_at (Or.inr (by decide))])
      have f50 := zf hS0 ha (k := 3) rfl
      have g51 : s1 a 4 = s0 a 4 := (by rw [e_s1, zU_at (Or.inr (by decide))])
      have f52 := zf hS0 ha (k := 4) rfl
      have g53 : s1 a 5 = s0 a 5 := (by rw [e_s1, zU_at (Or.inr (by decide))])
      have f54 := zf hS0 ha (k := 5) rfl
      have g55 : s1 a 7 = s0 a 7 := (by rw [e_s1, zU_at (Or.inr (by decide))])
      have f56 := zf hS0 ha (k := 7) rfl
      have g57 : s1 a 21 = s0 a 21 := (by rw [e_s1, zU_at (Or.inr (by decide))])
      have f58 := zf hS0 ha (k := 21) rfl
      have g59 : s1 a 22 = s0 a 22 := (by rw [e_s1, zU_at (Or.inr (by decide))])
      have f60 := zf hS0 ha (k := 22) rfl
      have g61 : s1 a 23 = s0 a 23 := (by rw [e_s1, zU_at (Or.inr (by decide))])
      have f62 := zf hS0 ha (k := 23) rfl
      have g63 : s1 a 24 = s0 a 24 := (by rw [e_s1, zU_at (Or.inr (by decide))])
      have f64 := zf hS0 ha (k := 24) rfl
      have g65 : s1 a 38 = s0 a 38 := (by rw [e_s1, zU_at (Or.inr (by decide))])
      have f66 := zf hS0 ha (k := 38) rfl
      have g67 : s1 a 51 = s0 a 51 := (by rw [e_s1, zU_at (Or.inr (by decide))])
      have f68 := zf hS0 ha (k := 51) rfl
      have g69 : s1 a 52 = s0 a 52 := (by rw [e_s1, zU_at (Or.inr (by decide))])
      have f70 := zf hS0 ha (k := 52) rfl
      exact j_iret hx hq rfl (by decide) (by decide) dX12_entry_50 ⟨(-1), rfl, rfl, hS_s1, (zFr_u zFr_rf e_s1 ha (by decide)), ⟨(by omega), by omega, by omega, by omega, by omega, by omega, by omega, by omega, by omega, by omega, by omega, by omega⟩⟩
    · skip
      refine j_aload_n hx 0 dX12_entry_36 rfl ?_
      refine g13_40 hx hG ha kf_RX12_92 dX12_entry_37 ?_
      refine j_iconst hx dX12_entry_40 ?_
      refine j_iload_n hx 1 dX12_entry_41 rfl ?_
      refine j_imul hx (r := 2 * x1) dX12_entry_42 rfl ?_
      refine j_iload_n hx 2 dX12_entry_43 rfl ?_
      refine j_iadd hx (r := 2 * x1 + x2) dX12_entry_44 (by omega) ?_
      have f71 := zaI (j := (2 * x1 + x2).toNat) hS0 (zr (k := 40) (t2 := 97) hG ha rfl) rfl (zlen hG (zr (k := 40) (t2 := 97) hG ha rfl) (n := 24) rfl rfl) (show 0 ≤ 2 * x1 + x2 by omega) (by omega) rfl
      refine j_iald hx hG (zr (k := 40) (t2 := 97) hG ha rfl) (by decide) rfl (zlen hG (zr (k := 40) (t2 := 97) hG ha rfl) (n := 24) rfl rfl) (by omega) (by omega) (j := (2 * x1 + x2).toNat) rfl (v := (s0 (gP G a 40) (2 * x1 + x2).toNat)) (by rw [e_s1, zU_at (Or.inl (zne ha (zr (k := 40) (t2 := 97) hG ha rfl) (by decide)))]) dX12_entry_45 ?_
      refine j_goto hx 50 dX12_entry_46 rfl ?_
      have g72 : s1 a 3 = s0 a 3 := (by rw [e_s1, zU_at (Or.inr (by decide))])
      have f73 := zf hS0 ha (k := 3) rfl
      have g74 : s1 a 4 = s0 a 4 := (by rw [e_s1, zU_at (Or.inr (by decide))])
      have f75 := zf hS0 ha (k := 4) rfl
      have g76 : s1 a 5 = s0 a 5 := (by rw [e_s1, zU_at (Or.inr (by decide))])
      have f77 := zf hS0 ha (k := 5) rfl
      have g78 : s1 a 7 = s0 a 7 := (by rw [e_s1, zU_at (Or.inr (by decide))])
      have f79 := zf hS0 ha (k := 7) rfl
      have g80 : s1 a 21 = s0 a 21 := (by rw [e_s1, zU_at (Or.inr (by decide))])
      have f81 := zf hS0 ha (k := 21) rfl
      have g82 : s1 a 22 = s0 a 22 := (by rw [e_s1, zU_at (Or.inr (by decide))])
      have f83 := zf hS0 ha (k := 22) rfl
      have g84 : s1 a 23 = s0 a 23 := (by rw [e_s1, zU_at (Or.inr (by decide))])
      have f85 := zf hS0 ha (k := 23) rfl
      have g86 : s1 a 24 = s0 a 24 := (by rw [e_s1, zU_at (Or.inr (by decide))])
      have f87 := zf hS0 ha (k := 24) rfl
      have g88 : s1 a 38 = s0 a 38 := (by rw [e_s1, zU_at (Or.inr (by decide))])
      have f89 := zf hS0 ha (k := 38) rfl
      have g90 : s1 a 51 = s0 a 51 := (by rw [e_s1, zU_at (Or.inr (by decide))])
      have f91 := zf hS0 ha (k := 51) rfl
      have g92 : s1 a 52 = s0 a 52 := (by rw [e_s1, zU_at (Or.inr (by decide))])
      have f93 := zf hS0 ha (k := 52) rfl
      exact j_iret hx hq rfl (by decide) (by decide) dX12_entry_50 ⟨(s0 (gP G a 40) (2 * x1 + x2).toNat), rfl, rfl, hS_s1, (zFr_u zFr_rf e_s1 ha (by decide)), ⟨(by omega), by omega, by omega, by omega, by omega, by omega, by omega, by omega, by omega, by omega, by omega, by omega⟩⟩

set_option maxHeartbeats 4000000 in
set_option maxRecDepth 20000 in
theorem c_X12_keepsRow_84k {E : zE} {l : Launch} (hst : l.stackTraces = false) (a : Nat) (x1 : Int) (b2 : Nat) (x3 : Int) (x4 : Int) : Con E l yX12_keepsRow cX12_keepsRow 6 (some .int) { frames := 0, cells := 0, slots := 0, locals := 0 } (fun G s vs => vs = [.ref a, .int (zI x1), .ref b2, .int (zI x3), .int (zI x4)] ∧ zGK G ∧ zSK G s ∧ (gT G a = 13) ∧ (0 ≤ x1 ∧ x1 ≤ 26442) ∧ (gT G b2 = 84) ∧ (515 ≤ x3 ∧ x3 ≤ 515) ∧ (1 ≤ x4 ∧ x4 ≤ 1) ∧ (x1 = 0 ∨ x1 = 13221 ∨ x1 = 26442)) (fun G s _ => pI (fun r G2 s2 => G2 = G ∧ zSK G s2 ∧ zFr [106] G s s2 ∧ (515 ≤ r ∧ r ≤ 26957) ∧ r = x1 + 515 ∧ zPt (s2 (gP G a 57)) (s (gP G a 57)) (s b2) x1 515)) := by
  refine Con.mk hst (by decide) (fun G s vs h => by rw [h.1]; exact Nat.le_of_ble_eq_true rfl) ?_
  rintro X G s0 vs ⟨rfl, hG, hS0, ha, hx1, hb2, hx3, hx4, e0⟩ rfl hx hq
  obtain rfl : x3 = 515 := by omega
  obtain rfl : x4 = 1 := by omega
  show JJ X E 6 G s0 0 0 [(0, .ref a), (1, .int (zI x1)), (2, .ref b2), (3, .int (zI 515)), (4, .int (zI 1))] 0 []
  refine j_iconst hx dX12_keepsRow_0 ?_
  refine j_istore hx [(5, .int (zI 0)), (0, .ref a), (1, .int (zI x1)), (2, .ref b2), (3, .int (zI 515)), (4, .int (zI 1))] dX12_keepsRow_1 (by decide) rfl ?_
  have c3_1 : ∀ (m_c3_1 : Nat) (v1 : Int) (s2 : zS), 2147483648 - v1 < m_c3_1 → (0 ≤ v1 ∧ v1 ≤ 515) → (zSK G s2) → (zFr [106] G s0 s2) → (zPt (s2 (gP G a 57)) (s0 (gP G a 57)) (s0 b2) x1 (v1)) → JJ X E 6 G s2 0 0 [(0, .ref a), (1, .int (zI x1)), (2, .ref b2), (3, .int (zI 515)), (4, .int (zI 1)), (5, .int (zI v1))] 3 [] := by
    intro m_c3_1
    induction m_c3_1 with
    | zero => intro v1 s2 hm_c3_1 fA3 hS_s2 hF_s2 hE1; exfalso; omega
    | succ m_c3_1 ih_c3_1 => 
      intro v1 s2 hm_c3_1 fA3 hS_s2 hF_s2 hE1
      refine j_iload hx 5 dX12_keepsRow_3 rfl ?_
      refine j_iload_n hx 3 dX12_keepsRow_5 rfl ?_
      refine j_icmp_ge hx 49 dX12_keepsRow_6 rfl (by omega) ⟨by decide, by decide⟩ (fun h2 => ?_) (fun h2 => ?_)
      · skip
        have hP3 : zPt (s2 (gP G a 57)) (s0 (gP G a 57)) (s0 b2) x1 515 := zPt_n hE1 (by omega)
        refine j_iload_n hx 1 dX12_keepsRow_49 rfl ?_
        refine j_iload_n hx 3 dX12_keepsRow_50 rfl ?_
        refine j_iadd hx (r := x1 + 515) dX12_keepsRow_51 rfl ?_
        exact j_iret hx hq rfl (by decide) (by decide) dX12_keepsRow_52 ⟨x1 + 515, rfl, rfl, hS_s2, (zFr_t zFr_rf hF_s2 (by decide)), ⟨(by omega), by omega, (zPt_nn hP3 (by omega) (by omega))⟩⟩
      · skip
        refine j_iload hx 4 dX12_keepsRow_9 rfl ?_
        refine j_if_eq hx 30 dX12_keepsRow_11 rfl ⟨by decide, by decide⟩ (fun h4 => absurd h4 (by omega)) (fun h4 => ?_)
        refine j_aload_n hx 0 dX12_keepsRow_14 rfl ?_
        refine g13_57 hx hG ha kf_RX12_125 dX12_keepsRow_15 ?_
        refine j_iload_n hx 1 dX12_keepsRow_18 rfl ?_
        refine j_iload hx 5 dX12_keepsRow_19 rfl ?_
        refine j_iadd hx (r := x1 + v1) dX12_keepsRow_21 rfl ?_
        refine j_aload_n hx 2 dX12_keepsRow_22 rfl ?_
        refine j_iload hx 5 dX12_keepsRow_23 rfl ?_
        have f5 := zah (j := (v1).toNat) hS0 hb2 (fun k => ⟨_, rfl, (axS_h _).1, (axS_h _).2.1⟩) (zlen hG hb2 (n := 515) rfl rfl) (show 0 ≤ v1 by omega) (by omega) rfl
        refine j_iald hx hG hb2 (by decide) rfl (zlen hG hb2 (n := 515) rfl rfl) (by omega) (by omega) (j := (v1).toNat) rfl (v := (s0 b2 (v1).toNat)) (by rw [(zFr_g hF_s2 hb2 (by decide))]) dX12_keepsRow_25 ?_
        refine j_iast hx hG (zr (k := 57) (t2 := 106) hG ha rfl) (by decide) rfl (zlen hG (zr (k := 57) (t2 := 106) hG ha rfl) (n := 39663) rfl rfl) (by omega) (by omega) (j := (x1 + v1).toNat) rfl dX12_keepsRow_26 ?_
        obtain ⟨s7, e_s7⟩ : ∃ z, z = zU s2 (gP G a 57) (x1 + v1).toNat ((s0 b2 (v1).toNat)) := ⟨_, rfl⟩
        rw [← e_s7]
        have hS_s7 : zSK G s7 := by rw [e_s7]; exact zSK_cq hS_s2 hS0 (zr (k := 57) (t2 := 106) hG ha rfl) hb2 (fun _ => rfl) rfl (j2 := (v1).toNat) (by exact congrArg (fun z => some (axI z)) (by omega)) (by have := (zlen hG hb2 (n := 515) rfl rfl); omega) rfl
        refine j_goto hx 43 dX12_keepsRow_27 rfl ?_
        refine j_iinc hx 5 [(5, .int (zI (v1 + 1))), (0, .ref a), (1, .int (zI x1)), (2, .ref b2), (3, .int (zI 515)), (4, .int (zI 1))] dX12_keepsRow_43 rfl (by omega) (by decide) rfl ?_
        refine j_goto hx 3 dX12_keepsRow_46 rfl ?_
        exact j_sub [1, 2, 3, 4, 5, 0] [(0, .ref a), (1, .int (zI x1)), (2, .ref b2), (3, .int (zI 515)), (4, .int (zI 1)), (5, .int (zI (v1 + 1)))] rfl (ih_c3_1 (v1 + 1) s7 (by omega) (by omega) hS_s7 (zFr_u (zFr_t zFr_rf hF_s2 (by decide)) e_s7 (zr (k := 57) (t2 := 106) hG ha rfl) (by decide)) (zPt_s hE1 e_s7 (by omega) (by omega) (by omega) rfl))
  exact j_sub [1, 2, 3, 4, 5, 0] [(0, .ref a), (1, .int (zI x1)), (2, .ref b2), (3, .int (zI 515)), (4, .int (zI 1)), (5, .int (zI 0))] rfl (c3_1 (2147483648 * 4) 0 s0 (by omega) (by omega) hS0 zFr_rf (zPt_0 rfl (by omega)))

set_option maxHeartbeats 4000000 in
set_option maxRecDepth 20000 in
theorem c_X12_keepsRow_86k {E : zE} {l : Launch} (hst : l.stackTraces = false) (a : Nat) (x1 : Int) (b2 : Nat) (x3 : Int) (x4 : Int) : Con E l yX12_keepsRow cX12_keepsRow 6 (some .int) { frames := 0, cells := 0, slots := 0, locals := 0 } (fun G s vs => vs = [.ref a, .int (zI x1), .ref b2, .int (zI x3), .int (zI x4)] ∧ zGK G ∧ zSK G s ∧ (gT G a = 13) ∧ (515 ≤ x1 ∧ x1 ≤ 26957) ∧ (gT G b2 = 86) ∧ (10000 ≤ x3 ∧ x3 ≤ 10000) ∧ (1 ≤ x4 ∧ x4 ≤ 1) ∧ (x1 = 515 ∨ x1 = 13736 ∨ x1 = 26957)) (fun G s _ => pI (fun r G2 s2 => G2 = G ∧ zSK G s2 ∧ zFr [106] G s s2 ∧ (10515 ≤ r ∧ r ≤ 36957) ∧ r = x1 + 10000 ∧ zPt (s2 (gP G a 57)) (s (gP G a 57)) (s b2) x1 10000)) := by
  refine Con.mk hst (by decide) (fun G s vs h => by rw [h.1]; exact Nat.le_of_ble_eq_true rfl) ?_
  rintro X G s0 vs ⟨rfl, hG, hS0, ha, hx1, hb2, hx3, hx4, e0⟩ rfl hx hq
  obtain rfl : x3 = 10000 := by omega
  obtain rfl : x4 = 1 := by omega
  show JJ X E 6 G s0 0 0 [(0, .ref a), (1, .int (zI x1)), (2, .ref b2), (3, .int (zI 10000)), (4, .int (zI 1))] 0 []
  refine j_iconst hx dX12_keepsRow_0 ?_
  refine j_istore hx [(5, .int (zI 0)), (0, .ref a), (1, .int (zI x1)), (2, .ref b2), (3, .int (zI 10000)), (4, .int (zI 1))] dX12_keepsRow_1 (by decide) rfl ?_
  have c3_1 : ∀ (m_c3_1 : Nat) (v1 : Int) (s2 : zS), 2147483648 - v1 < m_c3_1 → (0 ≤ v1 ∧ v1 ≤ 10000) → (zSK G s2) → (zFr [106] G s0 s2) → (zPt (s2 (gP G a 57)) (s0 (gP G a 57)) (s0 b2) x1 (v1)) → JJ X E 6 G s2 0 0 [(0, .ref a), (1, .int (zI x1)), (2, .ref b2), (3, .int (zI 10000)), (4, .int (zI 1)), (5, .int (zI v1))] 3 [] := by
    intro m_c3_1
    induction m_c3_1 with
    | zero => intro v1 s2 hm_c3_1 fA3 hS_s2 hF_s2 hE1; exfalso; omega
    | succ m_c3_1 ih_c3_1 => 
      intro v1 s2 hm_c3_1 fA3 hS_s2 hF_s2 hE1
      refine j_iload hx 5 dX12_keepsRow_3 rfl ?_
      refine j_iload_n hx 3 dX12_keepsRow_5 rfl ?_
      refine j_icmp_ge hx 49 dX12_keepsRow_6 rfl (by omega) ⟨by decide, by decide⟩ (fun h2 => ?_) (fun h2 => ?_)
      · skip
        have hP3 : zPt (s2 (gP G a 57)) (s0 (gP G a 57)) (s0 b2) x1 10000 := zPt_n hE1 (by omega)
        refine j_iload_n hx 1 dX12_keepsRow_49 rfl ?_
        refine j_iload_n hx 3 dX12_keepsRow_50 rfl ?_
        refine j_iadd hx (r := x1 + 10000) dX12_keepsRow_51 rfl ?_
        exact j_iret hx hq rfl (by decide) (by decide) dX12_keepsRow_52 ⟨x1 + 10000, rfl, rfl, hS_s2, (zFr_t zFr_rf hF_s2 (by decide)), ⟨(by omega), by omega, (zPt_nn hP3 (by omega) (by omega))⟩⟩
      · skip
        refine j_iload hx 4 dX12_keepsRow_9 rfl ?_
        refine j_if_eq hx 30 dX12_keepsRow_11 rfl ⟨by decide, by decide⟩ (fun h4 => absurd h4 (by omega)) (fun h4 => ?_)
        refine j_aload_n hx 0 dX12_keepsRow_14 rfl ?_
        refine g13_57 hx hG ha kf_RX12_125 dX12_keepsRow_15 ?_
        refine j_iload_n hx 1 dX12_keepsRow_18 rfl ?_
        refine j_iload hx 5 dX12_keepsRow_19 rfl ?_
        refine j_iadd hx (r := x1 + v1) dX12_keepsRow_21 rfl ?_
        refine j_aload_n hx 2 dX12_keepsRow_22 rfl ?_
        refine j_iload hx 5 dX12_keepsRow_23 rfl ?_
        have f5 := zaI (j := (v1).toNat) hS0 hb2 rfl (zlen hG hb2 (n := 10000) rfl rfl) (show 0 ≤ v1 by omega) (by omega) rfl
        refine j_iald hx hG hb2 (by decide) rfl (zlen hG hb2 (n := 10000) rfl rfl) (by omega) (by omega) (j := (v1).toNat) rfl (v := (s0 b2 (v1).toNat)) (by rw [(zFr_g hF_s2 hb2 (by decide))]) dX12_keepsRow_25 ?_
        refine j_iast hx hG (zr (k := 57) (t2 := 106) hG ha rfl) (by decide) rfl (zlen hG (zr (k := 57) (t2 := 106) hG ha rfl) (n := 39663) rfl rfl) (by omega) (by omega) (j := (x1 + v1).toNat) rfl dX12_keepsRow_26 ?_
        obtain ⟨s7, e_s7⟩ : ∃ z, z = zU s2 (gP G a 57) (x1 + v1).toNat ((s0 b2 (v1).toNat)) := ⟨_, rfl⟩
        rw [← e_s7]
        have hS_s7 : zSK G s7 := by rw [e_s7]; exact zSK_a hS_s2 (zr (k := 57) (t2 := 106) hG ha rfl) rfl rfl (congrArg some (axI_9 ((x1 + v1).toNat % 13221) (by omega))) (by omega)
        refine j_goto hx 43 dX12_keepsRow_27 rfl ?_
        refine j_iinc hx 5 [(5, .int (zI (v1 + 1))), (0, .ref a), (1, .int (zI x1)), (2, .ref b2), (3, .int (zI 10000)), (4, .int (zI 1))] dX12_keepsRow_43 rfl (by omega) (by decide) rfl ?_
        refine j_goto hx 3 dX12_keepsRow_46 rfl ?_
        exact j_sub [1, 2, 3, 4, 5, 0] [(0, .ref a), (1, .int (zI x1)), (2, .ref b2), (3, .int (zI 10000)), (4, .int (zI 1)), (5, .int (zI (v1 + 1)))] rfl (ih_c3_1 (v1 + 1) s7 (by omega) (by omega) hS_s7 (zFr_u (zFr_t zFr_rf hF_s2 (by decide)) e_s7 (zr (k := 57) (t2 := 106) hG ha rfl) (by decide)) (zPt_s hE1 e_s7 (by omega) (by omega) (by omega) rfl))
  exact j_sub [1, 2, 3, 4, 5, 0] [(0, .ref a), (1, .int (zI x1)), (2, .ref b2), (3, .int (zI 10000)), (4, .int (zI 1)), (5, .int (zI 0))] rfl (c3_1 (2147483648 * 4) 0 s0 (by omega) (by omega) hS0 zFr_rf (zPt_0 rfl (by omega)))

set_option maxHeartbeats 4000000 in
set_option maxRecDepth 20000 in
theorem c_X12_keepsRow_91k {E : zE} {l : Launch} (hst : l.stackTraces = false) (a : Nat) (x1 : Int) (b2 : Nat) (x3 : Int) (x4 : Int) : Con E l yX12_keepsRow cX12_keepsRow 6 (some .int) { frames := 0, cells := 0, slots := 0, locals := 0 } (fun G s vs => vs = [.ref a, .int (zI x1), .ref b2, .int (zI x3), .int (zI x4)] ∧ zGK G ∧ zSK G s ∧ (gT G a = 13) ∧ (10515 ≤ x1 ∧ x1 ≤ 36957) ∧ (gT G b2 = 91) ∧ (900 ≤ x3 ∧ x3 ≤ 900) ∧ (1 ≤ x4 ∧ x4 ≤ 1) ∧ (x1 = 10515 ∨ x1 = 23736 ∨ x1 = 36957)) (fun G s _ => pI (fun r G2 s2 => G2 = G ∧ zSK G s2 ∧ zFr [106] G s s2 ∧ (11415 ≤ r ∧ r ≤ 37857) ∧ r = x1 + 900 ∧ zPt (s2 (gP G a 57)) (s (gP G a 57)) (s b2) x1 900)) := by
  refine Con.mk hst (by decide) (fun G s vs h => by rw [h.1]; exact Nat.le_of_ble_eq_true rfl) ?_
  rintro X G s0 vs ⟨rfl, hG, hS0, ha, hx1, hb2, hx3, hx4, e0⟩ rfl hx hq
  obtain rfl : x3 = 900 := by omega
  obtain rfl : x4 = 1 := by omega
  show JJ X E 6 G s0 0 0 [(0, .ref a), (1, .int (zI x1)), (2, .ref b2), (3, .int (zI 900)), (4, .int (zI 1))] 0 []
  refine j_iconst hx dX12_keepsRow_0 ?_
  refine j_istore hx [(5, .int (zI 0)), (0, .ref a), (1, .int (zI x1)), (2, .ref b2), (3, .int (zI 900)), (4, .int (zI 1))] dX12_keepsRow_1 (by decide) rfl ?_
  have c3_1 : ∀ (m_c3_1 : Nat) (v1 : Int) (s2 : zS), 2147483648 - v1 < m_c3_1 → (0 ≤ v1 ∧ v1 ≤ 900) → (zSK G s2) → (zFr [106] G s0 s2) → (zPt (s2 (gP G a 57)) (s0 (gP G a 57)) (s0 b2) x1 (v1)) → JJ X E 6 G s2 0 0 [(0, .ref a), (1, .int (zI x1)), (2, .ref b2), (3, .int (zI 900)), (4, .int (zI 1)), (5, .int (zI v1))] 3 [] := by
    intro m_c3_1
    induction m_c3_1 with
    | zero => intro v1 s2 hm_c3_1 fA3 hS_s2 hF_s2 hE1; exfalso; omega
    | succ m_c3_1 ih_c3_1 => 
      intro v1 s2 hm_c3_1 fA3 hS_s2 hF_s2 hE1
      refine j_iload hx 5 dX12_keepsRow_3 rfl ?_
      refine j_iload_n hx 3 dX12_keepsRow_5 rfl ?_
      refine j_icmp_ge hx 49 dX12_keepsRow_6 rfl (by omega) ⟨by decide, by decide⟩ (fun h2 => ?_) (fun h2 => ?_)
      · skip
        have hP3 : zPt (s2 (gP G a 57)) (s0 (gP G a 57)) (s0 b2) x1 900 := zPt_n hE1 (by omega)
        refine j_iload_n hx 1 dX12_keepsRow_49 rfl ?_
        refine j_iload_n hx 3 dX12_keepsRow_50 rfl ?_
        refine j_iadd hx (r := x1 + 900) dX12_keepsRow_51 rfl ?_
        exact j_iret hx hq rfl (by decide) (by decide) dX12_keepsRow_52 ⟨x1 + 900, rfl, rfl, hS_s2, (zFr_t zFr_rf hF_s2 (by decide)), ⟨(by omega), by omega, (zPt_nn hP3 (by omega) (by omega))⟩⟩
      · skip
        refine j_iload hx 4 dX12_keepsRow_9 rfl ?_
        refine j_if_eq hx 30 dX12_keepsRow_11 rfl ⟨by decide, by decide⟩ (fun h4 => absurd h4 (by omega)) (fun h4 => ?_)
        refine j_aload_n hx 0 dX12_keepsRow_14 rfl ?_
        refine g13_57 hx hG ha kf_RX12_125 dX12_keepsRow_15 ?_
        refine j_iload_n hx 1 dX12_keepsRow_18 rfl ?_
        refine j_iload hx 5 dX12_keepsRow_19 rfl ?_
        refine j_iadd hx (r := x1 + v1) dX12_keepsRow_21 rfl ?_
        refine j_aload_n hx 2 dX12_keepsRow_22 rfl ?_
        refine j_iload hx 5 dX12_keepsRow_23 rfl ?_
        have f5 := zaI (j := (v1).toNat) hS0 hb2 rfl (zlen hG hb2 (n := 900) rfl rfl) (show 0 ≤ v1 by omega) (by omega) rfl
        refine j_iald hx hG hb2 (by decide) rfl (zlen hG hb2 (n := 900) rfl rfl) (by omega) (by omega) (j := (v1).toNat) rfl (v := (s0 b2 (v1).toNat)) (by rw [(zFr_g hF_s2 hb2 (by decide))]) dX12_keepsRow_25 ?_
        refine j_iast hx hG (zr (k := 57) (t2 := 106) hG ha rfl) (by decide) rfl (zlen hG (zr (k := 57) (t2 := 106) hG ha rfl) (n := 39663) rfl rfl) (by omega) (by omega) (j := (x1 + v1).toNat) rfl dX12_keepsRow_26 ?_
        obtain ⟨s7, e_s7⟩ : ∃ z, z = zU s2 (gP G a 57) (x1 + v1).toNat ((s0 b2 (v1).toNat)) := ⟨_, rfl⟩
        rw [← e_s7]
        have hS_s7 : zSK G s7 := by rw [e_s7]; exact zSK_a hS_s2 (zr (k := 57) (t2 := 106) hG ha rfl) rfl rfl (congrArg some (axI_10 ((x1 + v1).toNat % 13221) (by omega))) (by omega)
        refine j_goto hx 43 dX12_keepsRow_27 rfl ?_
        refine j_iinc hx 5 [(5, .int (zI (v1 + 1))), (0, .ref a), (1, .int (zI x1)), (2, .ref b2), (3, .int (zI 900)), (4, .int (zI 1))] dX12_keepsRow_43 rfl (by omega) (by decide) rfl ?_
        refine j_goto hx 3 dX12_keepsRow_46 rfl ?_
        exact j_sub [1, 2, 3, 4, 5, 0] [(0, .ref a), (1, .int (zI x1)), (2, .ref b2), (3, .int (zI 900)), (4, .int (zI 1)), (5, .int (zI (v1 + 1)))] rfl (ih_c3_1 (v1 + 1) s7 (by omega) (by omega) hS_s7 (zFr_u (zFr_t zFr_rf hF_s2 (by decide)) e_s7 (zr (k := 57) (t2 := 106) hG ha rfl) (by decide)) (zPt_s hE1 e_s7 (by omega) (by omega) (by omega) rfl))
  exact j_sub [1, 2, 3, 4, 5, 0] [(0, .ref a), (1, .int (zI x1)), (2, .ref b2), (3, .int (zI 900)), (4, .int (zI 1)), (5, .int (zI 0))] rfl (c3_1 (2147483648 * 4) 0 s0 (by omega) (by omega) hS0 zFr_rf (zPt_0 rfl (by omega)))

set_option maxHeartbeats 4000000 in
set_option maxRecDepth 20000 in
theorem c_X12_keepsRow_92k {E : zE} {l : Launch} (hst : l.stackTraces = false) (a : Nat) (x1 : Int) (b2 : Nat) (x3 : Int) (x4 : Int) : Con E l yX12_keepsRow cX12_keepsRow 6 (some .int) { frames := 0, cells := 0, slots := 0, locals := 0 } (fun G s vs => vs = [.ref a, .int (zI x1), .ref b2, .int (zI x3), .int (zI x4)] ∧ zGK G ∧ zSK G s ∧ (gT G a = 13) ∧ (11415 ≤ x1 ∧ x1 ≤ 37857) ∧ (gT G b2 = 92) ∧ (900 ≤ x3 ∧ x3 ≤ 900) ∧ (1 ≤ x4 ∧ x4 ≤ 1) ∧ (x1 = 11415 ∨ x1 = 24636 ∨ x1 = 37857)) (fun G s _ => pI (fun r G2 s2 => G2 = G ∧ zSK G s2 ∧ zFr [106] G s s2 ∧ (12315 ≤ r ∧ r ≤ 38757) ∧ r = x1 + 900 ∧ zPt (s2 (gP G a 57)) (s (gP G a 57)) (s b2) x1 900)) := by
  refine Con.mk hst (by decide) (fun G s vs h => by rw [h.1]; exact Nat.le_of_ble_eq_true rfl) ?_
  rintro X G s0 vs ⟨rfl, hG, hS0, ha, hx1, hb2, hx3, hx4, e0⟩ rfl hx hq
  obtain rfl : x3 = 900 := by omega
  obtain rfl : x4 = 1 := by omega
  show JJ X E 6 G s0 0 0 [(0, .ref a), (1, .int (zI x1)), (2, .ref b2), (3, .int (zI 900)), (4, .int (zI 1))] 0 []
  refine j_iconst hx dX12_keepsRow_0 ?_
  refine j_istore hx [(5, .int (zI 0)), (0, .ref a), (1, .int (zI x1)), (2, .ref b2), (3, .int (zI 900)), (4, .int (zI 1))] dX12_keepsRow_1 (by decide) rfl ?_
  have c3_1 : ∀ (m_c3_1 : Nat) (v1 : Int) (s2 : zS), 2147483648 - v1 < m_c3_1 → (0 ≤ v1 ∧ v1 ≤ 900) → (zSK G s2) → (zFr [106] G s0 s2) → (zPt (s2 (gP G a 57)) (s0 (gP G a 57)) (s0 b2) x1 (v1)) → JJ X E 6 G s2 0 0 [(0, .ref a), (1, .int (zI x1)), (2, .ref b2), (3, .int (zI 900)), (4, .int (zI 1)), (5, .int (zI v1))] 3 [] := by
    intro m_c3_1
    induction m_c3_1 with
    | zero => intro v1 s2 hm_c3_1 fA3 hS_s2 hF_s2 hE1; exfalso; omega
    | succ m_c3_1 ih_c3_1 => 
      intro v1 s2 hm_c3_1 fA3 hS_s2 hF_s2 hE1
      refine j_iload hx 5 dX12_keepsRow_3 rfl ?_
      refine j_iload_n hx 3 dX12_keepsRow_5 rfl ?_
      refine j_icmp_ge hx 49 dX12_keepsRow_6 rfl (by omega) ⟨by decide, by decide⟩ (fun h2 => ?_) (fun h2 => ?_)
      · skip
        have hP3 : zPt (s2 (gP G a 57)) (s0 (gP G a 57)) (s0 b2) x1 900 := zPt_n hE1 (by omega)
        refine j_iload_n hx 1 dX12_keepsRow_49 rfl ?_
        refine j_iload_n hx 3 dX12_keepsRow_50 rfl ?_
        refine j_iadd hx (r := x1 + 900) dX12_keepsRow_51 rfl ?_
        exact j_iret hx hq rfl (by decide) (by decide) dX12_keepsRow_52 ⟨x1 + 900, rfl, rfl, hS_s2, (zFr_t zFr_rf hF_s2 (by decide)), ⟨(by omega), by omega, (zPt_nn hP3 (by omega) (by omega))⟩⟩
      · skip
        refine j_iload hx 4 dX12_keepsRow_9 rfl ?_
        refine j_if_eq hx 30 dX12_keepsRow_11 rfl ⟨by decide, by decide⟩ (fun h4 => absurd h4 (by omega)) (fun h4 => ?_)
        refine j_aload_n hx 0 dX12_keepsRow_14 rfl ?_
        refine g13_57 hx hG ha kf_RX12_125 dX12_keepsRow_15 ?_
        refine j_iload_n hx 1 dX12_keepsRow_18 rfl ?_
        refine j_iload hx 5 dX12_keepsRow_19 rfl ?_
        refine j_iadd hx (r := x1 + v1) dX12_keepsRow_21 rfl ?_
        refine j_aload_n hx 2 dX12_keepsRow_22 rfl ?_
        refine j_iload hx 5 dX12_keepsRow_23 rfl ?_
        have f5 := zaI (j := (v1).toNat) hS0 hb2 rfl (zlen hG hb2 (n := 900) rfl rfl) (show 0 ≤ v1 by omega) (by omega) rfl
        refine j_iald hx hG hb2 (by decide) rfl (zlen hG hb2 (n := 900) rfl rfl) (by omega) (by omega) (j := (v1).toNat) rfl (v := (s0 b2 (v1).toNat)) (by rw [(zFr_g hF_s2 hb2 (by decide))]) dX12_keepsRow_25 ?_
        refine j_iast hx hG (zr (k := 57) (t2 := 106) hG ha rfl) (by decide) rfl (zlen hG (zr (k := 57) (t2 := 106) hG ha rfl) (n := 39663) rfl rfl) (by omega) (by omega) (j := (x1 + v1).toNat) rfl dX12_keepsRow_26 ?_
        obtain ⟨s7, e_s7⟩ : ∃ z, z = zU s2 (gP G a 57) (x1 + v1).toNat ((s0 b2 (v1).toNat)) := ⟨_, rfl⟩
        rw [← e_s7]
        have hS_s7 : zSK G s7 := by rw [e_s7]; exact zSK_a hS_s2 (zr (k := 57) (t2 := 106) hG ha rfl) rfl rfl (congrArg some (axI_11 ((x1 + v1).toNat % 13221) (by omega))) (by omega)
        refine j_goto hx 43 dX12_keepsRow_27 rfl ?_
        refine j_iinc hx 5 [(5, .int (zI (v1 + 1))), (0, .ref a), (1, .int (zI x1)), (2, .ref b2), (3, .int (zI 900)), (4, .int (zI 1))] dX12_keepsRow_43 rfl (by omega) (by decide) rfl ?_
        refine j_goto hx 3 dX12_keepsRow_46 rfl ?_
        exact j_sub [1, 2, 3, 4, 5, 0] [(0, .ref a), (1, .int (zI x1)), (2, .ref b2), (3, .int (zI 900)), (4, .int (zI 1)), (5, .int (zI (v1 + 1)))] rfl (ih_c3_1 (v1 + 1) s7 (by omega) (by omega) hS_s7 (zFr_u (zFr_t zFr_rf hF_s2 (by decide)) e_s7 (zr (k := 57) (t2 := 106) hG ha rfl) (by decide)) (zPt_s hE1 e_s7 (by omega) (by omega) (by omega) rfl))
  exact j_sub [1, 2, 3, 4, 5, 0] [(0, .ref a), (1, .int (zI x1)), (2, .ref b2), (3, .int (zI 900)), (4, .int (zI 1)), (5, .int (zI 0))] rfl (c3_1 (2147483648 * 4) 0 s0 (by omega) (by omega) hS0 zFr_rf (zPt_0 rfl (by omega)))

set_option maxHeartbeats 4000000 in
set_option maxRecDepth 20000 in
theorem c_X12_keepsRow_93k {E : zE} {l : Launch} (hst : l.stackTraces = false) (a : Nat) (x1 : Int) (b2 : Nat) (x3 : Int) (x4 : Int) : Con E l yX12_keepsRow cX12_keepsRow 6 (some .int) { frames := 0, cells := 0, slots := 0, locals := 0 } (fun G s vs => vs = [.ref a, .int (zI x1), .ref b2, .int (zI x3), .int (zI x4)] ∧ zGK G ∧ zSK G s ∧ (gT G a = 13) ∧ (12315 ≤ x1 ∧ x1 ≤ 38757) ∧ (gT G b2 = 93) ∧ (900 ≤ x3 ∧ x3 ≤ 900) ∧ (1 ≤ x4 ∧ x4 ≤ 1) ∧ (x1 = 12315 ∨ x1 = 25536 ∨ x1 = 38757)) (fun G s _ => pI (fun r G2 s2 => G2 = G ∧ zSK G s2 ∧ zFr [106] G s s2 ∧ (13215 ≤ r ∧ r ≤ 39657) ∧ r = x1 + 900 ∧ zPt (s2 (gP G a 57)) (s (gP G a 57)) (s b2) x1 900)) := by
  refine Con.mk hst (by decide) (fun G s vs h => by rw [h.1]; exact Nat.le_of_ble_eq_true rfl) ?_
  rintro X G s0 vs ⟨rfl, hG, hS0, ha, hx1, hb2, hx3, hx4, e0⟩ rfl hx hq
  obtain rfl : x3 = 900 := by omega
  obtain rfl : x4 = 1 := by omega
  show JJ X E 6 G s0 0 0 [(0, .ref a), (1, .int (zI x1)), (2, .ref b2), (3, .int (zI 900)), (4, .int (zI 1))] 0 []
  refine j_iconst hx dX12_keepsRow_0 ?_
  refine j_istore hx [(5, .int (zI 0)), (0, .ref a), (1, .int (zI x1)), (2, .ref b2), (3, .int (zI 900)), (4, .int (zI 1))] dX12_keepsRow_1 (by decide) rfl ?_
  have c3_1 : ∀ (m_c3_1 : Nat) (v1 : Int) (s2 : zS), 2147483648 - v1 < m_c3_1 → (0 ≤ v1 ∧ v1 ≤ 900) → (zSK G s2) → (zFr [106] G s0 s2) → (zPt (s2 (gP G a 57)) (s0 (gP G a 57)) (s0 b2) x1 (v1)) → JJ X E 6 G s2 0 0 [(0, .ref a), (1, .int (zI x1)), (2, .ref b2), (3, .int (zI 900)), (4, .int (zI 1)), (5, .int (zI v1))] 3 [] := by
    intro m_c3_1
    induction m_c3_1 with
    | zero => intro v1 s2 hm_c3_1 fA3 hS_s2 hF_s2 hE1; exfalso; omega
    | succ m_c3_1 ih_c3_1 => 
      intro v1 s2 hm_c3_1 fA3 hS_s2 hF_s2 hE1
      refine j_iload hx 5 dX12_keepsRow_3 rfl ?_
      refine j_iload_n hx 3 dX12_keepsRow_5 rfl ?_
      refine j_icmp_ge hx 49 dX12_keepsRow_6 rfl (by omega) ⟨by decide, by decide⟩ (fun h2 => ?_) (fun h2 => ?_)
      · skip
        have hP3 : zPt (s2 (gP G a 57)) (s0 (gP G a 57)) (s0 b2) x1 900 := zPt_n hE1 (by omega)
        refine j_iload_n hx 1 dX12_keepsRow_49 rfl ?_
        refine j_iload_n hx 3 dX12_keepsRow_50 rfl ?_
        refine j_iadd hx (r := x1 + 900) dX12_keepsRow_51 rfl ?_
        exact j_iret hx hq rfl (by decide) (by decide) dX12_keepsRow_52 ⟨x1 + 900, rfl, rfl, hS_s2, (zFr_t zFr_rf hF_s2 (by decide)), ⟨(by omega), by omega, (zPt_nn hP3 (by omega) (by omega))⟩⟩
      · skip
        refine j_iload hx 4 dX12_keepsRow_9 rfl ?_
        refine j_if_eq hx 30 dX12_keepsRow_11 rfl ⟨by decide, by decide⟩ (fun h4 => absurd h4 (by omega)) (fun h4 => ?_)
        refine j_aload_n hx 0 dX12_keepsRow_14 rfl ?_
        refine g13_57 hx hG ha kf_RX12_125 dX12_keepsRow_15 ?_
        refine j_iload_n hx 1 dX12_keepsRow_18 rfl ?_
        refine j_iload hx 5 dX12_keepsRow_19 rfl ?_
        refine j_iadd hx (r := x1 + v1) dX12_keepsRow_21 rfl ?_
        refine j_aload_n hx 2 dX12_keepsRow_22 rfl ?_
        refine j_iload hx 5 dX12_keepsRow_23 rfl ?_
        have f5 := zaI (j := (v1).toNat) hS0 hb2 rfl (zlen hG hb2 (n := 900) rfl rfl) (show 0 ≤ v1 by omega) (by omega) rfl
        refine j_iald hx hG hb2 (by decide) rfl (zlen hG hb2 (n := 900) rfl rfl) (by omega) (by omega) (j := (v1).toNat) rfl (v := (s0 b2 (v1).toNat)) (by rw [(zFr_g hF_s2 hb2 (by decide))]) dX12_keepsRow_25 ?_
        refine j_iast hx hG (zr (k := 57) (t2 := 106) hG ha rfl) (by decide) rfl (zlen hG (zr (k := 57) (t2 := 106) hG ha rfl) (n := 39663) rfl rfl) (by omega) (by omega) (j := (x1 + v1).toNat) rfl dX12_keepsRow_26 ?_
        obtain ⟨s7, e_s7⟩ : ∃ z, z = zU s2 (gP G a 57) (x1 + v1).toNat ((s0 b2 (v1).toNat)) := ⟨_, rfl⟩
        rw [← e_s7]
        have hS_s7 : zSK G s7 := by rw [e_s7]; exact zSK_a hS_s2 (zr (k := 57) (t2 := 106) hG ha rfl) rfl rfl (congrArg some (axI_11 ((x1 + v1).toNat % 13221) (by omega))) (by omega)
        refine j_goto hx 43 dX12_keepsRow_27 rfl ?_
        refine j_iinc hx 5 [(5, .int (zI (v1 + 1))), (0, .ref a), (1, .int (zI x1)), (2, .ref b2), (3, .int (zI 900)), (4, .int (zI 1))] dX12_keepsRow_43 rfl (by omega) (by decide) rfl ?_
        refine j_goto hx 3 dX12_keepsRow_46 rfl ?_
        exact j_sub [1, 2, 3, 4, 5, 0] [(0, .ref a), (1, .int (zI x1)), (2, .ref b2), (3, .int (zI 900)), (4, .int (zI 1)), (5, .int (zI (v1 + 1)))] rfl (ih_c3_1 (v1 + 1) s7 (by omega) (by omega) hS_s7 (zFr_u (zFr_t zFr_rf hF_s2 (by decide)) e_s7 (zr (k := 57) (t2 := 106) hG ha rfl) (by decide)) (zPt_s hE1 e_s7 (by omega) (by omega) (by omega) rfl))
  exact j_sub [1, 2, 3, 4, 5, 0] [(0, .ref a), (1, .int (zI x1)), (2, .ref b2), (3, .int (zI 900)), (4, .int (zI 1)), (5, .int (zI 0))] rfl (c3_1 (2147483648 * 4) 0 s0 (by omega) (by omega) hS0 zFr_rf (zPt_0 rfl (by omega)))

set_option maxHeartbeats 4000000 in
set_option maxRecDepth 20000 in
theorem c_X12_keepsRow_94k {E : zE} {l : Launch} (hst : l.stackTraces = false) (a : Nat) (x1 : Int) (b2 : Nat) (x3 : Int) (x4 : Int) : Con E l yX12_keepsRow cX12_keepsRow 6 (some .int) { frames := 0, cells := 0, slots := 0, locals := 0 } (fun G s vs => vs = [.ref a, .int (zI x1), .ref b2, .int (zI x3), .int (zI x4)] ∧ zGK G ∧ zSK G s ∧ (gT G a = 13) ∧ (13215 ≤ x1 ∧ x1 ≤ 39657) ∧ (gT G b2 = 94) ∧ (6 ≤ x3 ∧ x3 ≤ 6) ∧ (1 ≤ x4 ∧ x4 ≤ 1) ∧ (x1 = 13215 ∨ x1 = 26436 ∨ x1 = 39657)) (fun G s _ => pI (fun r G2 s2 => G2 = G ∧ zSK G s2 ∧ zFr [106] G s s2 ∧ (13221 ≤ r ∧ r ≤ 39663) ∧ r = x1 + 6 ∧ zPt (s2 (gP G a 57)) (s (gP G a 57)) (s b2) x1 6)) := by
  refine Con.mk hst (by decide) (fun G s vs h => by rw [h.1]; exact Nat.le_of_ble_eq_true rfl) ?_
  rintro X G s0 vs ⟨rfl, hG, hS0, ha, hx1, hb2, hx3, hx4, e0⟩ rfl hx hq
  obtain rfl : x3 = 6 := by omega
  obtain rfl : x4 = 1 := by omega
  show JJ X E 6 G s0 0 0 [(0, .ref a), (1, .int (zI x1)), (2, .ref b2), (3, .int (zI 6)), (4, .int (zI 1))] 0 []
  refine j_iconst hx dX12_keepsRow_0 ?_
  refine j_istore hx [(5, .int (zI 0)), (0, .ref a), (1, .int (zI x1)), (2, .ref b2), (3, .int (zI 6)), (4, .int (zI 1))] dX12_keepsRow_1 (by decide) rfl ?_
  have c3_1 : ∀ (m_c3_1 : Nat) (v1 : Int) (s2 : zS), 2147483648 - v1 < m_c3_1 → (0 ≤ v1 ∧ v1 ≤ 6) → (zSK G s2) → (zFr [106] G s0 s2) → (zPt (s2 (gP G a 57)) (s0 (gP G a 57)) (s0 b2) x1 (v1)) → JJ X E 6 G s2 0 0 [(0, .ref a), (1, .int (zI x1)), (2, .ref b2), (3, .int (zI 6)), (4, .int (zI 1)), (5, .int (zI v1))] 3 [] := by
    intro m_c3_1
    induction m_c3_1 with
    | zero => intro v1 s2 hm_c3_1 fA3 hS_s2 hF_s2 hE1; exfalso; omega
    | succ m_c3_1 ih_c3_1 => 
      intro v1 s2 hm_c3_1 fA3 hS_s2 hF_s2 hE1
      refine j_iload hx 5 dX12_keepsRow_3 rfl ?_
      refine j_iload_n hx 3 dX12_keepsRow_5 rfl ?_
      refine j_icmp_ge hx 49 dX12_keepsRow_6 rfl (by omega) ⟨by decide, by decide⟩ (fun h2 => ?_) (fun h2 => ?_)
      · skip
        have hP3 : zPt (s2 (gP G a 57)) (s0 (gP G a 57)) (s0 b2) x1 6 := zPt_n hE1 (by omega)
        refine j_iload_n hx 1 dX12_keepsRow_49 rfl ?_
        refine j_iload_n hx 3 dX12_keepsRow_50 rfl ?_
        refine j_iadd hx (r := x1 + 6) dX12_keepsRow_51 rfl ?_
        exact j_iret hx hq rfl (by decide) (by decide) dX12_keepsRow_52 ⟨x1 + 6, rfl, rfl, hS_s2, (zFr_t zFr_rf hF_s2 (by decide)), ⟨(by omega), by omega, (zPt_nn hP3 (by omega) (by omega))⟩⟩
      · skip
        refine j_iload hx 4 dX12_keepsRow_9 rfl ?_
        refine j_if_eq hx 30 dX12_keepsRow_11 rfl ⟨by decide, by decide⟩ (fun h4 => absurd h4 (by omega)) (fun h4 => ?_)
        refine j_aload_n hx 0 dX12_keepsRow_14 rfl ?_
        refine g13_57 hx hG ha kf_RX12_125 dX12_keepsRow_15 ?_
        refine j_iload_n hx 1 dX12_keepsRow_18 rfl ?_
        refine j_iload hx 5 dX12_keepsRow_19 rfl ?_
        refine j_iadd hx (r := x1 + v1) dX12_keepsRow_21 rfl ?_
        refine j_aload_n hx 2 dX12_keepsRow_22 rfl ?_
        refine j_iload hx 5 dX12_keepsRow_23 rfl ?_
        have f5 := zaI (j := (v1).toNat) hS0 hb2 rfl (zlen hG hb2 (n := 6) rfl rfl) (show 0 ≤ v1 by omega) (by omega) rfl
        refine j_iald hx hG hb2 (by decide) rfl (zlen hG hb2 (n := 6) rfl rfl) (by omega) (by omega) (j := (v1).toNat) rfl (v := (s0 b2 (v1).toNat)) (by rw [(zFr_g hF_s2 hb2 (by decide))]) dX12_keepsRow_25 ?_
        refine j_iast hx hG (zr (k := 57) (t2 := 106) hG ha rfl) (by decide) rfl (zlen hG (zr (k := 57) (t2 := 106) hG ha rfl) (n := 39663) rfl rfl) (by omega) (by omega) (j := (x1 + v1).toNat) rfl dX12_keepsRow_26 ?_
        obtain ⟨s7, e_s7⟩ : ∃ z, z = zU s2 (gP G a 57) (x1 + v1).toNat ((s0 b2 (v1).toNat)) := ⟨_, rfl⟩
        rw [← e_s7]
        have hS_s7 : zSK G s7 := by rw [e_s7]; exact zSK_a hS_s2 (zr (k := 57) (t2 := 106) hG ha rfl) rfl rfl (congrArg some (axI_12 ((x1 + v1).toNat % 13221) (by omega))) (by omega)
        refine j_goto hx 43 dX12_keepsRow_27 rfl ?_
        refine j_iinc hx 5 [(5, .int (zI (v1 + 1))), (0, .ref a), (1, .int (zI x1)), (2, .ref b2), (3, .int (zI 6)), (4, .int (zI 1))] dX12_keepsRow_43 rfl (by omega) (by decide) rfl ?_
        refine j_goto hx 3 dX12_keepsRow_46 rfl ?_
        exact j_sub [1, 2, 3, 4, 5, 0] [(0, .ref a), (1, .int (zI x1)), (2, .ref b2), (3, .int (zI 6)), (4, .int (zI 1)), (5, .int (zI (v1 + 1)))] rfl (ih_c3_1 (v1 + 1) s7 (by omega) (by omega) hS_s7 (zFr_u (zFr_t zFr_rf hF_s2 (by decide)) e_s7 (zr (k := 57) (t2 := 106) hG ha rfl) (by decide)) (zPt_s hE1 e_s7 (by omega) (by omega) (by omega) rfl))
  exact j_sub [1, 2, 3, 4, 5, 0] [(0, .ref a), (1, .int (zI x1)), (2, .ref b2), (3, .int (zI 6)), (4, .int (zI 1)), (5, .int (zI 0))] rfl (c3_1 (2147483648 * 4) 0 s0 (by omega) (by omega) hS0 zFr_rf (zPt_0 rfl (by omega)))

theorem lk_RX12_498 : LkV RX12 498 RX12 yX12_keepsRow cX12_keepsRow 6 (some .int) 4 := ⟨km_RX12_498, ki_yX12_keepsRow, ks_RX12_yX12_keepsRow, kn_RX12, kc_yX12_keepsRow, rfl, by decide +kernel, by decide +kernel, by decide +kernel⟩
set_option maxHeartbeats 4000000 in
set_option maxRecDepth 20000 in
theorem c_X12_keepsAll_k {E : zE} {l : Launch} (hst : l.stackTraces = false) (a : Nat) (x1 : Int) (x2 : Int) : Con E l yX12_keepsAll cX12_keepsAll 4 none { frames := 1, cells := 0, slots := 0, locals := 25 } (fun G s vs => vs = [.ref a, .int (zI x1), .int (zI x2)] ∧ zGK G ∧ zSK G s ∧ (gT G a = 13) ∧ (0 ≤ x1 ∧ x1 ≤ 2) ∧ (1 ≤ x2 ∧ x2 ≤ 1) ∧ (zIm (s (gP G a 57))) ∧ (zc (s (gP G a 27)) ≤ 60) ∧ (zRva (s (gP G a 34)) (s (gP G a 35)) (s (gP G a 37)))) (fun G s _ => pV (fun G2 s2 => G2 = G ∧ zSK G s2 ∧ zFr [106] G s s2 ∧ zIm (s2 (gP G a 57)) ∧ s2 (gP G a 57) 488 = s (gP G a 57) 488 ∨ s2 (gP G a 57) 488 = s (gP G a 27) 488 ∧ s2 (gP G a 57) 13709 = s (gP G a 57) 13709 ∨ s2 (gP G a 57) 13709 = s (gP G a 27) 488 ∧ s2 (gP G a 57) 26930 = s (gP G a 57) 26930 ∨ s2 (gP G a 57) 26930 = s (gP G a 27) 488)) := by
  refine Con.mk hst (by decide) (fun G s vs h => by rw [h.1]; exact Nat.le_of_ble_eq_true rfl) ?_
  rintro X G s0 vs ⟨rfl, hG, hS0, ha, hx1, hx2, e0, e1, e2⟩ rfl hx hq
  obtain rfl : x2 = 1 := by omega
  show JJ X E 4 G s0 0 0 [(0, .ref a), (1, .int (zI x1)), (2, .int (zI 1))] 0 []
  refine j_aload_n hx 0 dX12_keepsAll_0 rfl ?_
  refine j_sipush hx dX12_keepsAll_1 rfl ?_
  refine j_iload_n hx 1 dX12_keepsAll_4 rfl ?_
  refine j_imul hx (r := 13221 * x1) dX12_keepsAll_5 rfl ?_
  refine j_aload_n hx 0 dX12_keepsAll_6 rfl ?_
  refine g13_27 hx hG ha kf_RX12_56 dX12_keepsAll_7 ?_
  refine j_sipush hx dX12_keepsAll_10 rfl ?_
  refine j_iload_n hx 2 dX12_keepsAll_13 rfl ?_
  refine j_callV hx hG (c_X12_keepsRow_84k hst a (13221 * x1) (gP G a 27) 515 1) lk_RX12_498 ha (by decide) rfl rfl rfl rfl [.int (zI (13221 * x1)), .ref (gP G a 27), .int (zI 515), .int (zI 1)] ⟨rfl, hG, hS0, ha, (by omega), (zr (k := 27) (t2 := 84) hG ha rfl), (by omega), (by omega), (by omega)⟩ rfl rfl ⟨by decide, by decide⟩ ⟨by decide, by decide⟩ (k2 := 0) (n2 := 0) rfl rfl (Nat.le_of_ble_eq_true rfl) dX12_keepsAll_14 (kIM (fun v1 s1 hS_s1 hF_s1 q2 => ?_))
  refine j_istore_n hx [(3, .int (zI v1)), (0, .ref a), (1, .int (zI x1)), (2, .int (zI 1))] dX12_keepsAll_17 (by decide) rfl ?_
  refine j_aload_n hx 1 dX12_keepsAll_18 rfl ?_
  refine j_iload_n hx 0 dX12_keepsAll_19 rfl ?_
  refine j_aload_n hx 1 dX12_keepsAll_20 rfl ?_
  refine g13_29 hx hG ha kf_RX12_62 dX12_keepsAll_21 ?_
  refine j_sipush hx dX12_keepsAll_24 rfl ?_
  refine j_iload_n hx 3 dX12_keepsAll_27 rfl ?_
  refine j_callV hx hG (c_X12_keepsRow_86k hst a v1 (gP G a 29) 10000 1) lk_RX12_498 ha (by decide) rfl rfl rfl rfl [.int (zI v1), .ref (gP G a 29), .int (zI 10000), .int (zI 1)] ⟨rfl, hG, hS_s1, ha, (by omega), (zr (k := 29) (t2 := 86) hG ha rfl), (by omega), (by omega), (by omega)⟩ rfl rfl ⟨by decide, by decide⟩ ⟨by decide, by decide⟩ (k2 := 0) (n2 := 0) rfl rfl (Nat.le_of_ble_eq_true rfl) dX12_keepsAll_28 (kIM (fun v3 s2 hS_s2 hF_s2 q4 => ?_))
  refine j_istore_n hx [(3, .int (zI v3)), (0, .ref a), (1, .int (zI x1)), (2, .int (zI 1))] dX12_keepsAll_31 (by decide) rfl ?_
  refine j_aload_n hx 1 dX12_keepsAll_32 rfl ?_
  refine j_iload_n hx 0 dX12_keepsAll_33 rfl ?_
  refine j_aload_n hx 1 dX12_keepsAll_34 rfl ?_
  refine g13_34 hx hG ha kf_RX12_77 dX12_keepsAll_35 ?_
  refine j_sipush hx dX12_keepsAll_38 rfl ?_
  refine j_iload_n hx 3 dX12_keepsAll_41 rfl ?_
  refine j_callV hx hG (c_X12_keepsRow_91k hst a v3 (gP G a 34) 900 1) lk_RX12_498 ha (by decide) rfl rfl rfl rfl [.int (zI v3), .ref (gP G a 34), .int (zI 900), .int (zI 1)] ⟨rfl, hG, hS_s2, ha, (by omega), (zr (k := 34) (t2 := 91) hG ha rfl), (by omega), (by omega), (by omega)⟩ rfl rfl ⟨by decide, by decide⟩ ⟨by decide, by decide⟩ (k2 := 0) (n2 := 0) rfl rfl (Nat.le_of_ble_eq_true rfl) dX12_keepsAll_42 (kIM (fun v5 s3 hS_s3 hF_s3 q6 => ?_))
  refine j_istore_n hx [(3, .int (zI v5)), (0, .ref a), (1, .int (zI x1)), (2, .int (zI 1))] dX12_keepsAll_45 (by decide) rfl ?_
  refine j_aload_n hx 1 dX12_keepsAll_46 rfl ?_
  refine j_iload_n hx 0 dX12_keepsAll_47 rfl ?_
  refine j_aload_n hx 1 dX12_keepsAll_48 rfl ?_
  refine g13_35 hx hG ha kf_RX12_80 dX12_keepsAll_49 ?_
  refine j_sipush hx dX12_keepsAll_52 rfl ?_
  refine j_iload_n hx 3 dX12_keepsAll_55 rfl ?_
  refine j_callV hx hG (c_X12_keepsRow_92k hst a v5 (gP G a 35) 900 1) lk_RX12_498 ha (by decide) rfl rfl rfl rfl [.int (zI v5), .ref (gP G a 35), .int (zI 900), .int (zI 1)] ⟨rfl, hG, hS_s3, ha, (by omega), (zr (k := 35) (t2 := 92) hG ha rfl), (by omega), (by omega), (by omega)⟩ rfl rfl ⟨by decide, by decide⟩ ⟨by decide, by decide⟩ (k2 := 0) (n2 := 0) rfl rfl (Nat.le_of_ble_eq_true rfl) dX12_keepsAll_56 (kIM (fun v7 s4 hS_s4 hF_s4 q8 => ?_))
  refine j_istore_n hx [(3, .int (zI v7)), (0, .ref a), (1, .int (zI x1)), (2, .int (zI 1))] dX12_keepsAll_59 (by decide) rfl ?_
  refine j_aload_n hx 1 dX12_keepsAll_60 rfl ?_
  refine j_iload_n hx 0 dX12_keepsAll_61 rfl ?_
  refine j_aload_n hx 1 dX12_keepsAll_62 rfl ?_
  refine g13_36 hx hG ha kf_RX12_83 dX12_keepsAll_63 ?_
  refine j_sipush hx dX12_keepsAll_66 rfl ?_
  refine j_iload_n hx 3 dX12_keepsAll_69 rfl ?_
  refine j_callV hx hG (c_X12_keepsRow_93k hst a v7 (gP G a 36) 900 1) lk_RX12_498 ha (by decide) rfl rfl rfl rfl [.int (zI v7), .ref (gP G a 36), .int (zI 900), .int (zI 1)] ⟨rfl, hG, hS_s4, ha, (by omega), (zr (k := 36) (t2 := 93) hG ha rfl), (by omega), (by omega), (by omega)⟩ rfl rfl ⟨by decide, by decide⟩ ⟨by decide, by decide⟩ (k2 := 0) (n2 := 0) rfl rfl (Nat.le_of_ble_eq_true rfl) dX12_keepsAll_70 (kIM (fun v9 s5 hS_s5 hF_s5 q10 => ?_))
  refine j_istore_n hx [(3, .int (zI v9)), (0, .ref a), (1, .int (zI x1)), (2, .int (zI 1))] dX12_keepsAll_73 (by decide) rfl ?_
  refine j_aload_n hx 1 dX12_keepsAll_74 rfl ?_
  refine j_iload_n hx 0 dX12_keepsAll_75 rfl ?_
  refine j_aload_n hx 1 dX12_keepsAll_76 rfl ?_
  refine g13_37 hx hG ha kf_RX12_86 dX12_keepsAll_77 ?_
  refine j_bipush hx dX12_keepsAll_80 rfl ?_
  refine j_iload_n hx 3 dX12_keepsAll_82 rfl ?_
  refine j_callV hx hG (c_X12_keepsRow_94k hst a v9 (gP G a 37) 6 1) lk_RX12_498 ha (by decide) rfl rfl rfl rfl [.int (zI v9), .ref (gP G a 37), .int (zI 6), .int (zI 1)] ⟨rfl, hG, hS_s5, ha, (by omega), (zr (k := 37) (t2 := 94) hG ha rfl), (by omega), (by omega), (by omega)⟩ rfl rfl ⟨by decide, by decide⟩ ⟨by decide, by decide⟩ (k2 := 0) (n2 := 0) rfl rfl (Nat.le_of_ble_eq_true rfl) dX12_keepsAll_83 (kIM (fun v11 s6 hS_s6 hF_s6 q12 => ?_))
  have hI13 := zIm_put e0 q2.2.2 q4.2.2 q6.2.2 q8.2.2 q10.2.2 q12.2.2 (by omega) (by omega) (by omega) (by rw [(zFr_g hF_s2 (zr (k := 34) (t2 := 91) hG ha rfl) (by decide)), (zFr_g hF_s1 (zr (k := 34) (t2 := 91) hG ha rfl) (by decide)), (zFr_g hF_s3 (zr (k := 35) (t2 := 92) hG ha rfl) (by decide)), (zFr_g hF_s2 (zr (k := 35) (t2 := 92) hG ha rfl) (by decide)), (zFr_g hF_s1 (zr (k := 35) (t2 := 92) hG ha rfl) (by decide)), (zFr_g hF_s5 (zr (k := 37) (t2 := 94) hG ha rfl) (by decide)), (zFr_g hF_s4 (zr (k := 37) (t2 := 94) hG ha rfl) (by decide)), (zFr_g hF_s3 (zr (k := 37) (t2 := 94) hG ha rfl) (by decide)), (zFr_g hF_s2 (zr (k := 37) (t2 := 94) hG ha rfl) (by decide)), (zFr_g hF_s1 (zr (k := 37) (t2 := 94) hG ha rfl) (by decide))]; exact e2) (fun j hj => (za hS_s5 (zr (k := 37) (t2 := 94) hG ha rfl) (lo := 0) (hi := 150) rfl (by rw [zn hG (zr (k := 37) (t2 := 94) hG ha rfl) (n := 6) rfl]; exact hj)).2)
  have z14 := hI13.2
  refine j_pop hx dX12_keepsAll_86 rfl ?_
  exact j_vret hx hq rfl (by decide) (by decide) dX12_keepsAll_87 ⟨rfl, rfl, hS_s6, (zFr_t (zFr_t (zFr_t (zFr_t (zFr_t (zFr_t zFr_rf hF_s1 (by decide)) hF_s2 (by decide)) hF_s3 (by decide)) hF_s4 (by decide)) hF_s5 (by decide)) hF_s6 (by decide)), ⟨hI13.1, by omega, by omega, by omega⟩⟩

theorem lk_RX12_502 : LkV RX12 502 RX12 yX12_keepsAll cX12_keepsAll 4 none 2 := ⟨km_RX12_502, ki_yX12_keepsAll, ks_RX12_yX12_keepsAll, kn_RX12, kc_yX12_keepsAll, rfl, by decide +kernel, by decide +kernel, by decide +kernel⟩
set_option maxHeartbeats 4000000 in
set_option maxRecDepth 20000 in
theorem c_X12_image {E : zE} {l : Launch} (hst : l.stackTraces = false) (a : Nat) : Con E l yX12_image cX12_image 1 (some .int) { frames := 2, cells := 0, slots := 0, locals := 48 } (fun G s vs => vs = [.ref a] ∧ zGK G ∧ zSK G s ∧ (gT G a = 13) ∧ (zIm (s (gP G a 57))) ∧ (zc (s (gP G a 27)) ≤ 60) ∧ (zRva (s (gP G a 34)) (s (gP G a 35)) (s (gP G a 37)))) (fun G s _ => pI (fun r G2 s2 => G2 = G ∧ zSK G s2 ∧ zFr [13, 106] G s s2 ∧ ((-2147483648) ≤ r ∧ r ≤ 2147483647) ∧ zIm (s2 (gP G a 57)) ∧ s2 (gP G a 57) 488 = s (gP G a 57) 488 ∨ s2 (gP G a 57) 488 = s (gP G a 27) 488 ∧ s2 (gP G a 57) 13709 = s (gP G a 57) 13709 ∨ s2 (gP G a 57) 13709 = s (gP G a 27) 488 ∧ s2 (gP G a 57) 26930 = s (gP G a 57) 26930 ∨ s2 (gP G a 57) 26930 = s (gP G a 27) 488 ∧ s2 a 3 = s a 3 ∧ s2 a 4 = s a 4 ∧ s2 a 5 = s a 5 ∧ s2 a 7 = s a 7 ∧ s2 a 21 = s a 21 ∧ s2 a 22 = s a 22 ∧ s2 a 23 = s a 23 ∧ s2 a 24 = s a 24 ∧ s2 a 38 = s a 38 ∧ s2 a 51 = s a 51 ∧ s2 a 52 = s a 52)) := by
  refine Con.mk hst (by decide) (fun G s vs h => by rw [h.1]; exact Nat.le_of_ble_eq_true rfl) ?_
  rintro X G s0 vs ⟨rfl, hG, hS0, ha, e0, e1, e2⟩ rfl hx hq
  show JJ X E 1 G s0 0 0 [(0, .ref a)] 0 []
  refine j_aload_n hx 0 dX12_image_0 rfl ?_
  refine j_iconst hx dX12_image_1 ?_
  refine p13_0 hx hG ha kf_RX12_3 dX12_image_2 ?_
  obtain ⟨s1, e_s1⟩ : ∃ z, z = zU s0 a 0 0 := ⟨_, rfl⟩
  rw [← e_s1]
  have hS_s1 : zSK G s1 := by rw [e_s1]; exact zSK_F hS0 ha rfl rfl rfl (by omega)
  refine j_aload_n hx 0 dX12_image_5 rfl ?_
  have f1 := zf hS0 ha (k := 58) rfl
  refine g13_58 hx hG ha kf_RX12_201 (v := (s0 a 58)) (by rw [e_s1, zU_at (Or.inr (by decide))]) dX12_image_6 ?_
  refine j_iconst hx dX12_image_9 ?_
  refine j_icmp_ne hx 15 dX12_image_10 rfl (by omega) ⟨by decide, by decide⟩ (fun h2 => ?_) (fun h2 => ?_)
  · skip
    refine j_aload_n hx 0 dX12_image_15 rfl ?_
    refine j_aload_n hx 0 dX12_image_16 rfl ?_
    refine g13_58 hx hG ha kf_RX12_201 (v := (s0 a 58)) (by rw [e_s1, zU_at (Or.inr (by decide))]) dX12_image_17 ?_
    refine j_iconst hx dX12_image_20 ?_
    have g3 : zc (s1 (gP G a 27)) = zc (s0 (gP G a 27)) := by rw [e_s1, zU_ne (zne (zr (k := 27) (t2 := 84) hG ha rfl) ha (by decide))]
    have g4 : s1 (gP G a 57) 488 = s0 (gP G a 57) 488 := (by rw [e_s1, zU_at (Or.inl (zne ha (zr (k := 57) (t2 := 106) hG ha rfl) (by decide)))])
    have g5 : s1 (gP G a 27) 488 = s0 (gP G a 27) 488 := (by rw [e_s1, zU_at (Or.inl (zne ha (zr (k := 27) (t2 := 84) hG ha rfl) (by decide)))])
    have g6 : s1 (gP G a 57) 13709 = s0 (gP G a 57) 13709 := (by rw [e_s1, zU_at (Or.inl (zne ha (zr (k := 57) (t2 := 106) hG ha rfl) (by decide)))])
    have g7 : s1 (gP G a 57) 26930 = s0 (gP G a 57) 26930 := (by rw [e_s1, zU_at (Or.inl (zne ha (zr (k := 57) (t2 := 106) hG ha rfl) (by decide)))])
    refine j_callV hx hG (c_X12_keepsAll_k hst a ((s0 a 58)) 1) lk_RX12_502 ha (by decide) rfl rfl rfl rfl [.int (zI ((s0 a 58))), .int (zI 1)] ⟨rfl, hG, hS_s1, ha, (by omega), (by omega), ((by rw [e_s1, zU_ne (zne (zr (k := 57) (t2 := 106) hG ha rfl) ha (by decide))]; exact e0)), (by omega), ((by rw [e_s1, zU_ne (zne (zr (k := 34) (t2 := 91) hG ha rfl) ha (by decide)), e_s1, zU_ne (zne (zr (k := 35) (t2 := 92) hG ha rfl) ha (by decide)), e_s1, zU_ne (zne (zr (k := 37) (t2 := 94) hG ha rfl) ha (by decide))]; exact e2))⟩ rfl rfl ⟨by decide, by decide⟩ ⟨by decide, by decide⟩ (k2 := 0) (n2 := 0) rfl rfl (Nat.le_of_ble_eq_true rfl) dX12_image_21 (kVM (fun s2 hS_s2 hF_s2 q9 => ?_))
    refine j_aload_n hx 0 dX12_image_24 rfl ?_
    refine j_dup hx dX12_image_25 rfl ?_
    refine g13_58 hx hG ha kf_RX12_201 (v := (s0 a 58)) (by rw [(zFr_g hF_s2 ha (by decide)), e_s1, zU_at (Or.inr (by decide))]) dX12_image_26 ?_
    refine j_iconst hx dX12_image_29 ?_
    refine j_iadd hx (r := (s0 a 58) + 1) dX12_image_30 (by omega) ?_
    refine p13_58 hx hG ha kf_RX12_201 dX12_image_31 ?_
    obtain ⟨s3, e_s3⟩ : ∃ z, z = zU s2 a 58 ((s0 a 58) + 1) := ⟨_, rfl⟩
    rw [← e_s3]
    have hS_s3 : zSK G s3 := by rw [e_s3]; exact zSK_F hS_s2 ha rfl rfl rfl (by omega)
    refine j_aload_n hx 0 dX12_image_34 rfl ?_
    refine g13_58 hx hG ha kf_RX12_201 (v := (s0 a 58) + 1) (by rw [e_s3, zU_eq]) dX12_image_35 ?_
    have g10 : s3 (gP G a 57) 488 = s2 (gP G a 57) 488 := (by rw [e_s3, zU_at (Or.inl (zne ha (zr (k := 57) (t2 := 106) hG ha rfl) (by decide)))])
    have g11 : s3 (gP G a 57) 13709 = s2 (gP G a 57) 13709 := (by rw [e_s3, zU_at (Or.inl (zne ha (zr (k := 57) (t2 := 106) hG ha rfl) (by decide)))])
    have g12 : s3 (gP G a 57) 26930 = s2 (gP G a 57) 26930 := (by rw [e_s3, zU_at (Or.inl (zne ha (zr (k := 57) (t2 := 106) hG ha rfl) (by decide)))])
    have g13 : s3 a 3 = s0 a 3 := (by rw [e_s3, zU_at (Or.inr (by decide)), (zFr_g hF_s2 ha (by decide)), e_s1, zU_at (Or.inr (by decide))])
    have f14 := zf hS0 ha (k := 3) rfl
    have g15 : s3 a 4 = s0 a 4 := (by rw [e_s3, zU_at (Or.inr (by decide)), (zFr_g hF_s2 ha (by decide)), e_s1, zU_at (Or.inr (by decide))])
    have f16 := zf hS0 ha (k := 4) rfl
    have g17 : s3 a 5 = s0 a 5 := (by rw [e_s3, zU_at (Or.inr (by decide)), (zFr_g hF_s2 ha (by decide)), e_s1, zU_at (Or.inr (by decide))])
    have f18 := zf hS0 ha (k := 5) rfl
    have g19 : s3 a 7 = s0 a 7 := (by rw [e_s3, zU_at (Or.inr (by decide)), (zFr_g hF_s2 ha (by decide)), e_s1, zU_at (Or.inr (by decide))])
    have f20 := zf hS0 ha (k := 7) rfl
    have g21 : s3 a 21 = s0 a 21 := (by rw [e_s3, zU_at (Or.inr (by decide)), (zFr_g hF_s2 ha (by decide)), e_s1, zU_at (Or.inr (by decide))])
    have f22 := zf hS0 ha (k := 21) rfl
    have g23 : s3 a 22 = s0 a 22 := (by rw [e_s3, zU_at (Or.inr (by decide)), (zFr_g hF_s2 ha (by decide)), e_s1, zU_at (Or.inr (by decide))])
    have f24 := zf hS0 ha (k := 22) rfl
    have g25 : s3 a 23 = s0 a 23 := (by rw [e_s3, zU_at (Or.inr (by decide)), (zFr_g hF_s2 ha (by decide)), e_s1, zU_at (Or.inr (by decide))])
    have f26 := zf hS0 ha (k := 23) rfl
    have g27 : s3 a 24 = s0 a 24 := (by rw [e_s3, zU_at (Or.inr (by decide)), (zFr_g hF_s2 ha (by decide)), e_s1, zU_at (Or.inr (by decide))])
    have f28 := zf hS0 ha (k := 24) rfl
    have g29 : s3 a 38 = s0 a 38 := (by rw [e_s3, zU_at (Or.inr (by decide)), (zFr_g hF_s2 ha (by decide)), e_s1, zU_at (Or.inr (by decide))])
    have f30 := zf hS0 ha (k := 38) rfl
    have g31 : s3 a 51 = s0 a 51 := (by rw [e_s3, zU_at (Or.inr (by decide)), (zFr_g hF_s2 ha (by decide)), e_s1, zU_at (Or.inr (by decide))])
    have f32 := zf hS0 ha (k := 51) rfl
    have g33 : s3 a 52 = s0 a 52 := (by rw [e_s3, zU_at (Or.inr (by decide)), (zFr_g hF_s2 ha (by decide)), e_s1, zU_at (Or.inr (by decide))])
    have f34 := zf hS0 ha (k := 52) rfl
    exact j_iret hx hq rfl (by decide) (by decide) dX12_image_38 ⟨(s0 a 58) + 1, rfl, rfl, hS_s3, (zFr_u (zFr_t (zFr_u zFr_rf e_s1 ha (by decide)) hF_s2 (by decide)) e_s3 ha (by decide)), ⟨(by omega), (by rw [e_s3, zU_ne (zne (zr (k := 57) (t2 := 106) hG ha rfl) ha (by decide))]; exact q9.1), by omega, by omega, by omega, by omega, by omega, by omega, by omega, by omega, by omega, by omega, by omega, by omega, by omega, by omega⟩⟩
  · skip
    refine j_iconst hx dX12_image_13 ?_
    have g35 : s1 (gP G a 57) 488 = s0 (gP G a 57) 488 := (by rw [e_s1, zU_at (Or.inl (zne ha (zr (k := 57) (t2 := 106) hG ha rfl) (by decide)))])
    have g36 : s1 (gP G a 57) 13709 = s0 (gP G a 57) 13709 := (by rw [e_s1, zU_at (Or.inl (zne ha (zr (k := 57) (t2 := 106) hG ha rfl) (by decide)))])
    have g37 : s1 (gP G a 57) 26930 = s0 (gP G a 57) 26930 := (by rw [e_s1, zU_at (Or.inl (zne ha (zr (k := 57) (t2 := 106) hG ha rfl) (by decide)))])
    have g38 : s1 a 3 = s0 a 3 := (by rw [e_s1, zU_at (Or.inr (by decide))])
    have f39 := zf hS0 ha (k := 3) rfl
    have g40 : s1 a 4 = s0 a 4 := (by rw [e_s1, zU_at (Or.inr (by decide))])
    have f41 := zf hS0 ha (k := 4) rfl
    have g42 : s1 a 5 = s0 a 5 := (by rw [e_s1, zU_at (Or.inr (by decide))])
    have f43 := zf hS0 ha (k := 5) rfl
    have g44 : s1 a 7 = s0 a 7 := (by rw [e_s1, zU_at (Or.inr (by decide))])
    have f45 := zf hS0 ha (k := 7) rfl
    have g46 : s1 a 21 = s0 a 21 := (by rw [e_s1, zU_at (Or.inr (by decide))])
    have f47 := zf hS0 ha (k := 21) rfl
    have g48 : s1 a 22 = s0 a 22 := (by rw [e_s1, zU_at (Or.inr (by decide))])
    have f49 := zf hS0 ha (k := 22) rfl
    have g50 : s1 a 23 = s0 a 23 := (by rw [e_s1, zU_at (Or.inr (by decide))])
    have f51 := zf hS0 ha (k := 23) rfl
    have g52 : s1 a 24 = s0 a 24 := (by rw [e_s1, zU_at (Or.inr (by decide))])
    have f53 := zf hS0 ha (k := 24) rfl
    have g54 : s1 a 38 = s0 a 38 := (by rw [e_s1, zU_at (Or.inr (by decide))])
    have f55 := zf hS0 ha (k := 38) rfl
    have g56 : s1 a 51 = s0 a 51 := (by rw [e_s1, zU_at (Or.inr (by decide))])
    have f57 := zf hS0 ha (k := 51) rfl
    have g58 : s1 a 52 = s0 a 52 := (by rw [e_s1, zU_at (Or.inr (by decide))])
    have f59 := zf hS0 ha (k := 52) rfl
    exact j_iret hx hq rfl (by decide) (by decide) dX12_image_14 ⟨(-1), rfl, rfl, hS_s1, (zFr_u zFr_rf e_s1 ha (by decide)), ⟨(by omega), (by rw [e_s1, zU_ne (zne (zr (k := 57) (t2 := 106) hG ha rfl) ha (by decide))]; exact e0), by omega, by omega, by omega, by omega, by omega, by omega, by omega, by omega, by omega, by omega, by omega, by omega, by omega, by omega⟩⟩

set_option maxHeartbeats 4000000 in
set_option maxRecDepth 20000 in
theorem c_X12_keepsRow_84r {E : zE} {l : Launch} (hst : l.stackTraces = false) (a : Nat) (x1 : Int) (b2 : Nat) (x3 : Int) (x4 : Int) : Con E l yX12_keepsRow cX12_keepsRow 6 (some .int) { frames := 0, cells := 0, slots := 0, locals := 0 } (fun G s vs => vs = [.ref a, .int (zI x1), .ref b2, .int (zI x3), .int (zI x4)] ∧ zGK G ∧ zSK G s ∧ (gT G a = 13) ∧ (0 ≤ x1 ∧ x1 ≤ 26442) ∧ (gT G b2 = 84) ∧ (515 ≤ x3 ∧ x3 ≤ 515) ∧ (0 ≤ x4 ∧ x4 ≤ 0) ∧ (x1 = 0 ∨ x1 = 13221 ∨ x1 = 26442)) (fun G s _ => pI (fun r G2 s2 => G2 = G ∧ zSK G s2 ∧ zFr [84] G s s2 ∧ (515 ≤ r ∧ r ≤ 26957) ∧ r = x1 + 515 ∧ zPg (s2 b2) (s b2) (s (gP G a 57)) x1 515)) := by
  refine Con.mk hst (by decide) (fun G s vs h => by rw [h.1]; exact Nat.le_of_ble_eq_true rfl) ?_
  rintro X G s0 vs ⟨rfl, hG, hS0, ha, hx1, hb2, hx3, hx4, e0⟩ rfl hx hq
  obtain rfl : x3 = 515 := by omega
  obtain rfl : x4 = 0 := by omega
  show JJ X E 6 G s0 0 0 [(0, .ref a), (1, .int (zI x1)), (2, .ref b2), (3, .int (zI 515)), (4, .int (zI 0))] 0 []
  refine j_iconst hx dX12_keepsRow_0 ?_
  refine j_istore hx [(5, .int (zI 0)), (0, .ref a), (1, .int (zI x1)), (2, .ref b2), (3, .int (zI 515)), (4, .int (zI 0))] dX12_keepsRow_1 (by decide) rfl ?_
  have c3_1 : ∀ (m_c3_1 : Nat) (v1 : Int) (s2 : zS), 2147483648 - v1 < m_c3_1 → (0 ≤ v1 ∧ v1 ≤ 515) → (zSK G s2) → (zFr [84] G s0 s2) → (zPg (s2 b2) (s0 b2) (s0 (gP G a 57)) x1 (v1)) → JJ X E 6 G s2 0 0 [(0, .ref a), (1, .int (zI x1)), (2, .ref b2), (3, .int (zI 515)), (4, .int (zI 0)), (5, .int (zI v1))] 3 [] := by
    intro m_c3_1
    induction m_c3_1 with
    | zero => intro v1 s2 hm_c3_1 fA3 hS_s2 hF_s2 hE1; exfalso; omega
    | succ m_c3_1 ih_c3_1 => 
      intro v1 s2 hm_c3_1 fA3 hS_s2 hF_s2 hE1
      refine j_iload hx 5 dX12_keepsRow_3 rfl ?_
      refine j_iload_n hx 3 dX12_keepsRow_5 rfl ?_
      refine j_icmp_ge hx 49 dX12_keepsRow_6 rfl (by omega) ⟨by decide, by decide⟩ (fun h2 => ?_) (fun h2 => ?_)
      · skip
        have hP3 : zPg (s2 b2) (s0 b2) (s0 (gP G a 57)) x1 515 := zPg_n hE1 (by omega)
        refine j_iload_n hx 1 dX12_keepsRow_49 rfl ?_
        refine j_iload_n hx 3 dX12_keepsRow_50 rfl ?_
        refine j_iadd hx (r := x1 + 515) dX12_keepsRow_51 rfl ?_
        exact j_iret hx hq rfl (by decide) (by decide) dX12_keepsRow_52 ⟨x1 + 515, rfl, rfl, hS_s2, (zFr_t zFr_rf hF_s2 (by decide)), ⟨(by omega), by omega, (zPg_nn hP3 (by omega) (by omega))⟩⟩
      · skip
        refine j_iload hx 4 dX12_keepsRow_9 rfl ?_
        refine j_if_eq hx 30 dX12_keepsRow_11 rfl ⟨by decide, by decide⟩ (fun h4 => ?_) (fun h4 => absurd h4 (by omega))
        refine j_aload_n hx 2 dX12_keepsRow_30 rfl ?_
        refine j_iload hx 5 dX12_keepsRow_31 rfl ?_
        refine j_aload_n hx 0 dX12_keepsRow_33 rfl ?_
        refine g13_57 hx hG ha kf_RX12_125 dX12_keepsRow_34 ?_
        refine j_iload_n hx 1 dX12_keepsRow_37 rfl ?_
        refine j_iload hx 5 dX12_keepsRow_38 rfl ?_
        refine j_iadd hx (r := x1 + v1) dX12_keepsRow_40 rfl ?_
        have f5 := zah (j := (x1 + v1).toNat) hS0 (zr (k := 57) (t2 := 106) hG ha rfl) (fun k => ⟨_, rfl, (axI_h _).1, (axI_h _).2.1⟩) (zlen hG (zr (k := 57) (t2 := 106) hG ha rfl) (n := 39663) rfl rfl) (show 0 ≤ x1 + v1 by omega) (by omega) rfl
        refine j_iald hx hG (zr (k := 57) (t2 := 106) hG ha rfl) (by decide) rfl (zlen hG (zr (k := 57) (t2 := 106) hG ha rfl) (n := 39663) rfl rfl) (by omega) (by omega) (j := (x1 + v1).toNat) rfl (v := (s0 (gP G a 57) (x1 + v1).toNat)) (by rw [(zFr_g hF_s2 (zr (k := 57) (t2 := 106) hG ha rfl) (by decide))]) dX12_keepsRow_41 ?_
        refine j_iast hx hG hb2 (by decide) rfl (zlen hG hb2 (n := 515) rfl rfl) (by omega) (by omega) (j := (v1).toNat) rfl dX12_keepsRow_42 ?_
        obtain ⟨s7, e_s7⟩ : ∃ z, z = zU s2 b2 (v1).toNat ((s0 (gP G a 57) (x1 + v1).toNat)) := ⟨_, rfl⟩
        rw [← e_s7]
        have hS_s7 : zSK G s7 := by rw [e_s7]; exact zSK_cq hS_s2 hS0 hb2 (zr (k := 57) (t2 := 106) hG ha rfl) (fun _ => rfl) rfl (j2 := (x1 + v1).toNat) (by exact congrArg (fun z => some (axS z)) (by omega)) (by have := (zlen hG (zr (k := 57) (t2 := 106) hG ha rfl) (n := 39663) rfl rfl); omega) rfl
        refine j_iinc hx 5 [(5, .int (zI (v1 + 1))), (0, .ref a), (1, .int (zI x1)), (2, .ref b2), (3, .int (zI 515)), (4, .int (zI 0))] dX12_keepsRow_43 rfl (by omega) (by decide) rfl ?_
        refine j_goto hx 3 dX12_keepsRow_46 rfl ?_
        exact j_sub [1, 2, 3, 4, 5, 0] [(0, .ref a), (1, .int (zI x1)), (2, .ref b2), (3, .int (zI 515)), (4, .int (zI 0)), (5, .int (zI (v1 + 1)))] rfl (ih_c3_1 (v1 + 1) s7 (by omega) (by omega) hS_s7 (zFr_u (zFr_t zFr_rf hF_s2 (by decide)) e_s7 hb2 (by decide)) (zPg_s hE1 e_s7 (by omega) (by omega) rfl))
  exact j_sub [1, 2, 3, 4, 5, 0] [(0, .ref a), (1, .int (zI x1)), (2, .ref b2), (3, .int (zI 515)), (4, .int (zI 0)), (5, .int (zI 0))] rfl (c3_1 (2147483648 * 4) 0 s0 (by omega) (by omega) hS0 zFr_rf (zPg_0 rfl (by omega)))

set_option maxHeartbeats 4000000 in
set_option maxRecDepth 20000 in
theorem c_X12_keepsRow_86r {E : zE} {l : Launch} (hst : l.stackTraces = false) (a : Nat) (x1 : Int) (b2 : Nat) (x3 : Int) (x4 : Int) : Con E l yX12_keepsRow cX12_keepsRow 6 (some .int) { frames := 0, cells := 0, slots := 0, locals := 0 } (fun G s vs => vs = [.ref a, .int (zI x1), .ref b2, .int (zI x3), .int (zI x4)] ∧ zGK G ∧ zSK G s ∧ (gT G a = 13) ∧ (515 ≤ x1 ∧ x1 ≤ 26957) ∧ (gT G b2 = 86) ∧ (10000 ≤ x3 ∧ x3 ≤ 10000) ∧ (0 ≤ x4 ∧ x4 ≤ 0) ∧ (x1 = 515 ∨ x1 = 13736 ∨ x1 = 26957)) (fun G s _ => pI (fun r G2 s2 => G2 = G ∧ zSK G s2 ∧ zFr [86] G s s2 ∧ (10515 ≤ r ∧ r ≤ 36957) ∧ r = x1 + 10000 ∧ zPg (s2 b2) (s b2) (s (gP G a 57)) x1 10000)) := by
  refine Con.mk hst (by decide) (fun G s vs h => by rw [h.1]; exact Nat.le_of_ble_eq_true rfl) ?_
  rintro X G s0 vs ⟨rfl, hG, hS0, ha, hx1, hb2, hx3, hx4, e0⟩ rfl hx hq
  obtain rfl : x3 = 10000 := by omega
  obtain rfl : x4 = 0 := by omega
  show JJ X E 6 G s0 0 0 [(0, .ref a), (1, .int (zI x1)), (2, .ref b2), (3, .int (zI 10000)), (4, .int (zI 0))] 0 []
  refine j_iconst hx dX12_keepsRow_0 ?_
  refine j_istore hx [(5, .int (zI 0)), (0, .ref a), (1, .int (zI x1)), (2, .ref b2), (3, .int (zI 10000)), (4, .int (zI 0))] dX12_keepsRow_1 (by decide) rfl ?_
  have c3_1 : ∀ (m_c3_1 : Nat) (v1 : Int) (s2 : zS), 2147483648 - v1 < m_c3_1 → (0 ≤ v1 ∧ v1 ≤ 10000) → (zSK G s2) → (zFr [86] G s0 s2) → (zPg (s2 b2) (s0 b2) (s0 (gP G a 57)) x1 (v1)) → JJ X E 6 G s2 0 0 [(0, .ref a), (1, .int (zI x1)), (2, .ref b2), (3, .int (zI 10000)), (4, .int (zI 0)), (5, .int (zI v1))] 3 [] := by
    intro m_c3_1
    induction m_c3_1 with
    | zero => intro v1 s2 hm_c3_1 fA3 hS_s2 hF_s2 hE1; exfalso; omega
    | succ m_c3_1 ih_c3_1 => 
      intro v1 s2 hm_c3_1 fA3 hS_s2 hF_s2 hE1
      refine j_iload hx 5 dX12_keepsRow_3 rfl ?_
      refine j_iload_n hx 3 dX12_keepsRow_5 rfl ?_
      refine j_icmp_ge hx 49 dX12_keepsRow_6 rfl (by omega) ⟨by decide, by decide⟩ (fun h2 => ?_) (fun h2 => ?_)
      · skip
        have hP3 : zPg (s2 b2) (s0 b2) (s0 (gP G a 57)) x1 10000 := zPg_n hE1 (by omega)
        refine j_iload_n hx 1 dX12_keepsRow_49 rfl ?_
        refine j_iload_n hx 3 dX12_keepsRow_50 rfl ?_
        refine j_iadd hx (r := x1 + 10000) dX12_keepsRow_51 rfl ?_
        exact j_iret hx hq rfl (by decide) (by decide) dX12_keepsRow_52 ⟨x1 + 10000, rfl, rfl, hS_s2, (zFr_t zFr_rf hF_s2 (by decide)), ⟨(by omega), by omega, (zPg_nn hP3 (by omega) (by omega))⟩⟩
      · skip
        refine j_iload hx 4 dX12_keepsRow_9 rfl ?_
        refine j_if_eq hx 30 dX12_keepsRow_11 rfl ⟨by decide, by decide⟩ (fun h4 => ?_) (fun h4 => absurd h4 (by omega))
        refine j_aload_n hx 2 dX12_keepsRow_30 rfl ?_
        refine j_iload hx 5 dX12_keepsRow_31 rfl ?_
        refine j_aload_n hx 0 dX12_keepsRow_33 rfl ?_
        refine g13_57 hx hG ha kf_RX12_125 dX12_keepsRow_34 ?_
        refine j_iload_n hx 1 dX12_keepsRow_37 rfl ?_
        refine j_iload hx 5 dX12_keepsRow_38 rfl ?_
        refine j_iadd hx (r := x1 + v1) dX12_keepsRow_40 rfl ?_
        have f5 := zaQ (j := (x1 + v1).toNat) hS0 (zr (k := 57) (t2 := 106) hG ha rfl) (congrArg some (axI_9 ((x1 + v1).toNat % 13221) (by omega))) (zlen hG (zr (k := 57) (t2 := 106) hG ha rfl) (n := 39663) rfl rfl) (show 0 ≤ x1 + v1 by omega) (by omega) rfl
        refine j_iald hx hG (zr (k := 57) (t2 := 106) hG ha rfl) (by decide) rfl (zlen hG (zr (k := 57) (t2 := 106) hG ha rfl) (n := 39663) rfl rfl) (by omega) (by omega) (j := (x1 + v1).toNat) rfl (v := (s0 (gP G a 57) (x1 + v1).toNat)) (by rw [(zFr_g hF_s2 (zr (k := 57) (t2 := 106) hG ha rfl) (by decide))]) dX12_keepsRow_41 ?_
        refine j_iast hx hG hb2 (by decide) rfl (zlen hG hb2 (n := 10000) rfl rfl) (by omega) (by omega) (j := (v1).toNat) rfl dX12_keepsRow_42 ?_
        obtain ⟨s7, e_s7⟩ : ∃ z, z = zU s2 b2 (v1).toNat ((s0 (gP G a 57) (x1 + v1).toNat)) := ⟨_, rfl⟩
        rw [← e_s7]
        have hS_s7 : zSK G s7 := by rw [e_s7]; exact zSK_A hS_s2 hb2 rfl rfl rfl (by omega)
        refine j_iinc hx 5 [(5, .int (zI (v1 + 1))), (0, .ref a), (1, .int (zI x1)), (2, .ref b2), (3, .int (zI 10000)), (4, .int (zI 0))] dX12_keepsRow_43 rfl (by omega) (by decide) rfl ?_
        refine j_goto hx 3 dX12_keepsRow_46 rfl ?_
        exact j_sub [1, 2, 3, 4, 5, 0] [(0, .ref a), (1, .int (zI x1)), (2, .ref b2), (3, .int (zI 10000)), (4, .int (zI 0)), (5, .int (zI (v1 + 1)))] rfl (ih_c3_1 (v1 + 1) s7 (by omega) (by omega) hS_s7 (zFr_u (zFr_t zFr_rf hF_s2 (by decide)) e_s7 hb2 (by decide)) (zPg_s hE1 e_s7 (by omega) (by omega) rfl))
  exact j_sub [1, 2, 3, 4, 5, 0] [(0, .ref a), (1, .int (zI x1)), (2, .ref b2), (3, .int (zI 10000)), (4, .int (zI 0)), (5, .int (zI 0))] rfl (c3_1 (2147483648 * 4) 0 s0 (by omega) (by omega) hS0 zFr_rf (zPg_0 rfl (by omega)))

set_option maxHeartbeats 4000000 in
set_option maxRecDepth 20000 in
theorem c_X12_keepsRow_91r {E : zE} {l : Launch} (hst : l.stackTraces = false) (a : Nat) (x1 : Int) (b2 : Nat) (x3 : Int) (x4 : Int) : Con E l yX12_keepsRow cX12_keepsRow 6 (some .int) { frames := 0, cells := 0, slots := 0, locals := 0 } (fun G s vs => vs = [.ref a, .int (zI x1), .ref b2, .int (zI x3), .int (zI x4)] ∧ zGK G ∧ zSK G s ∧ (gT G a = 13) ∧ (10515 ≤ x1 ∧ x1 ≤ 36957) ∧ (gT G b2 = 91) ∧ (900 ≤ x3 ∧ x3 ≤ 900) ∧ (0 ≤ x4 ∧ x4 ≤ 0) ∧ (x1 = 10515 ∨ x1 = 23736 ∨ x1 = 36957)) (fun G s _ => pI (fun r G2 s2 => G2 = G ∧ zSK G s2 ∧ zFr [91] G s s2 ∧ (11415 ≤ r ∧ r ≤ 37857) ∧ r = x1 + 900 ∧ zPg (s2 b2) (s b2) (s (gP G a 57)) x1 900)) := by
  refine Con.mk hst (by decide) (fun G s vs h => by rw [h.1]; exact Nat.le_of_ble_eq_true rfl) ?_
  rintro X G s0 vs ⟨rfl, hG, hS0, ha, hx1, hb2, hx3, hx4, e0⟩ rfl hx hq
  obtain rfl : x3 = 900 := by omega
  obtain rfl : x4 = 0 := by omega
  show JJ X E 6 G s0 0 0 [(0, .ref a), (1, .int (zI x1)), (2, .ref b2), (3, .int (zI 900)), (4, .int (zI 0))] 0 []
  refine j_iconst hx dX12_keepsRow_0 ?_
  refine j_istore hx [(5, .int (zI 0)), (0, .ref a), (1, .int (zI x1)), (2, .ref b2), (3, .int (zI 900)), (4, .int (zI 0))] dX12_keepsRow_1 (by decide) rfl ?_
  have c3_1 : ∀ (m_c3_1 : Nat) (v1 : Int) (s2 : zS), 2147483648 - v1 < m_c3_1 → (0 ≤ v1 ∧ v1 ≤ 900) → (zSK G s2) → (zFr [91] G s0 s2) → (zPg (s2 b2) (s0 b2) (s0 (gP G a 57)) x1 (v1)) → JJ X E 6 G s2 0 0 [(0, .ref a), (1, .int (zI x1)), (2, .ref b2), (3, .int (zI 900)), (4, .int (zI 0)), (5, .int (zI v1))] 3 [] := by
    intro m_c3_1
    induction m_c3_1 with
    | zero => intro v1 s2 hm_c3_1 fA3 hS_s2 hF_s2 hE1; exfalso; omega
    | succ m_c3_1 ih_c3_1 => 
      intro v1 s2 hm_c3_1 fA3 hS_s2 hF_s2 hE1
      refine j_iload hx 5 dX12_keepsRow_3 rfl ?_
      refine j_iload_n hx 3 dX12_keepsRow_5 rfl ?_
      refine j_icmp_ge hx 49 dX12_keepsRow_6 rfl (by omega) ⟨by decide, by decide⟩ (fun h2 => ?_) (fun h2 => ?_)
      · skip
        have hP3 : zPg (s2 b2) (s0 b2) (s0 (gP G a 57)) x1 900 := zPg_n hE1 (by omega)
        refine j_iload_n hx 1 dX12_keepsRow_49 rfl ?_
        refine j_iload_n hx 3 dX12_keepsRow_50 rfl ?_
        refine j_iadd hx (r := x1 + 900) dX12_keepsRow_51 rfl ?_
        exact j_iret hx hq rfl (by decide) (by decide) dX12_keepsRow_52 ⟨x1 + 900, rfl, rfl, hS_s2, (zFr_t zFr_rf hF_s2 (by decide)), ⟨(by omega), by omega, (zPg_nn hP3 (by omega) (by omega))⟩⟩
      · skip
        refine j_iload hx 4 dX12_keepsRow_9 rfl ?_
        refine j_if_eq hx 30 dX12_keepsRow_11 rfl ⟨by decide, by decide⟩ (fun h4 => ?_) (fun h4 => absurd h4 (by omega))
        refine j_aload_n hx 2 dX12_keepsRow_30 rfl ?_
        refine j_iload hx 5 dX12_keepsRow_31 rfl ?_
        refine j_aload_n hx 0 dX12_keepsRow_33 rfl ?_
        refine g13_57 hx hG ha kf_RX12_125 dX12_keepsRow_34 ?_
        refine j_iload_n hx 1 dX12_keepsRow_37 rfl ?_
        refine j_iload hx 5 dX12_keepsRow_38 rfl ?_
        refine j_iadd hx (r := x1 + v1) dX12_keepsRow_40 rfl ?_
        have f5 := zaQ (j := (x1 + v1).toNat) hS0 (zr (k := 57) (t2 := 106) hG ha rfl) (congrArg some (axI_10 ((x1 + v1).toNat % 13221) (by omega))) (zlen hG (zr (k := 57) (t2 := 106) hG ha rfl) (n := 39663) rfl rfl) (show 0 ≤ x1 + v1 by omega) (by omega) rfl
        refine j_iald hx hG (zr (k := 57) (t2 := 106) hG ha rfl) (by decide) rfl (zlen hG (zr (k := 57) (t2 := 106) hG ha rfl) (n := 39663) rfl rfl) (by omega) (by omega) (j := (x1 + v1).toNat) rfl (v := (s0 (gP G a 57) (x1 + v1).toNat)) (by rw [(zFr_g hF_s2 (zr (k := 57) (t2 := 106) hG ha rfl) (by decide))]) dX12_keepsRow_41 ?_
        refine j_iast hx hG hb2 (by decide) rfl (zlen hG hb2 (n := 900) rfl rfl) (by omega) (by omega) (j := (v1).toNat) rfl dX12_keepsRow_42 ?_
        obtain ⟨s7, e_s7⟩ : ∃ z, z = zU s2 b2 (v1).toNat ((s0 (gP G a 57) (x1 + v1).toNat)) := ⟨_, rfl⟩
        rw [← e_s7]
        have hS_s7 : zSK G s7 := by rw [e_s7]; exact zSK_A hS_s2 hb2 rfl rfl rfl (by omega)
        refine j_iinc hx 5 [(5, .int (zI (v1 + 1))), (0, .ref a), (1, .int (zI x1)), (2, .ref b2), (3, .int (zI 900)), (4, .int (zI 0))] dX12_keepsRow_43 rfl (by omega) (by decide) rfl ?_
        refine j_goto hx 3 dX12_keepsRow_46 rfl ?_
        exact j_sub [1, 2, 3, 4, 5, 0] [(0, .ref a), (1, .int (zI x1)), (2, .ref b2), (3, .int (zI 900)), (4, .int (zI 0)), (5, .int (zI (v1 + 1)))] rfl (ih_c3_1 (v1 + 1) s7 (by omega) (by omega) hS_s7 (zFr_u (zFr_t zFr_rf hF_s2 (by decide)) e_s7 hb2 (by decide)) (zPg_s hE1 e_s7 (by omega) (by omega) rfl))
  exact j_sub [1, 2, 3, 4, 5, 0] [(0, .ref a), (1, .int (zI x1)), (2, .ref b2), (3, .int (zI 900)), (4, .int (zI 0)), (5, .int (zI 0))] rfl (c3_1 (2147483648 * 4) 0 s0 (by omega) (by omega) hS0 zFr_rf (zPg_0 rfl (by omega)))

set_option maxHeartbeats 4000000 in
set_option maxRecDepth 20000 in
theorem c_X12_keepsRow_92r {E : zE} {l : Launch} (hst : l.stackTraces = false) (a : Nat) (x1 : Int) (b2 : Nat) (x3 : Int) (x4 : Int) : Con E l yX12_keepsRow cX12_keepsRow 6 (some .int) { frames := 0, cells := 0, slots := 0, locals := 0 } (fun G s vs => vs = [.ref a, .int (zI x1), .ref b2, .int (zI x3), .int (zI x4)] ∧ zGK G ∧ zSK G s ∧ (gT G a = 13) ∧ (11415 ≤ x1 ∧ x1 ≤ 37857) ∧ (gT G b2 = 92) ∧ (900 ≤ x3 ∧ x3 ≤ 900) ∧ (0 ≤ x4 ∧ x4 ≤ 0) ∧ (x1 = 11415 ∨ x1 = 24636 ∨ x1 = 37857)) (fun G s _ => pI (fun r G2 s2 => G2 = G ∧ zSK G s2 ∧ zFr [92] G s s2 ∧ (12315 ≤ r ∧ r ≤ 38757) ∧ r = x1 + 900 ∧ zPg (s2 b2) (s b2) (s (gP G a 57)) x1 900)) := by
  refine Con.mk hst (by decide) (fun G s vs h => by rw [h.1]; exact Nat.le_of_ble_eq_true rfl) ?_
  rintro X G s0 vs ⟨rfl, hG, hS0, ha, hx1, hb2, hx3, hx4, e0⟩ rfl hx hq
  obtain rfl : x3 = 900 := by omega
  obtain rfl : x4 = 0 := by omega
  show JJ X E 6 G s0 0 0 [(0, .ref a), (1, .int (zI x1)), (2, .ref b2), (3, .int (zI 900)), (4, .int (zI 0))] 0 []
  refine j_iconst hx dX12_keepsRow_0 ?_
  refine j_istore hx [(5, .int (zI 0)), (0, .ref a), (1, .int (zI x1)), (2, .ref b2), (3, .int (zI 900)), (4, .int (zI 0))] dX12_keepsRow_1 (by decide) rfl ?_
  have c3_1 : ∀ (m_c3_1 : Nat) (v1 : Int) (s2 : zS), 2147483648 - v1 < m_c3_1 → (0 ≤ v1 ∧ v1 ≤ 900) → (zSK G s2) → (zFr [92] G s0 s2) → (zPg (s2 b2) (s0 b2) (s0 (gP G a 57)) x1 (v1)) → JJ X E 6 G s2 0 0 [(0, .ref a), (1, .int (zI x1)), (2, .ref b2), (3, .int (zI 900)), (4, .int (zI 0)), (5, .int (zI v1))] 3 [] := by
    intro m_c3_1
    induction m_c3_1 with
    | zero => intro v1 s2 hm_c3_1 fA3 hS_s2 hF_s2 hE1; exfalso; omega
    | succ m_c3_1 ih_c3_1 => 
      intro v1 s2 hm_c3_1 fA3 hS_s2 hF_s2 hE1
      refine j_iload hx 5 dX12_keepsRow_3 rfl ?_
      refine j_iload_n hx 3 dX12_keepsRow_5 rfl ?_
      refine j_icmp_ge hx 49 dX12_keepsRow_6 rfl (by omega) ⟨by decide, by decide⟩ (fun h2 => ?_) (fun h2 => ?_)
      · skip
        have hP3 : zPg (s2 b2) (s0 b2) (s0 (gP G a 57)) x1 900 := zPg_n hE1 (by omega)
        refine j_iload_n hx 1 dX12_keepsRow_49 rfl ?_
        refine j_iload_n hx 3 dX12_keepsRow_50 rfl ?_
        refine j_iadd hx (r := x1 + 900) dX12_keepsRow_51 rfl ?_
        exact j_iret hx hq rfl (by decide) (by decide) dX12_keepsRow_52 ⟨x1 + 900, rfl, rfl, hS_s2, (zFr_t zFr_rf hF_s2 (by decide)), ⟨(by omega), by omega, (zPg_nn hP3 (by omega) (by omega))⟩⟩
      · skip
        refine j_iload hx 4 dX12_keepsRow_9 rfl ?_
        refine j_if_eq hx 30 dX12_keepsRow_11 rfl ⟨by decide, by decide⟩ (fun h4 => ?_) (fun h4 => absurd h4 (by omega))
        refine j_aload_n hx 2 dX12_keepsRow_30 rfl ?_
        refine j_iload hx 5 dX12_keepsRow_31 rfl ?_
        refine j_aload_n hx 0 dX12_keepsRow_33 rfl ?_
        refine g13_57 hx hG ha kf_RX12_125 dX12_keepsRow_34 ?_
        refine j_iload_n hx 1 dX12_keepsRow_37 rfl ?_
        refine j_iload hx 5 dX12_keepsRow_38 rfl ?_
        refine j_iadd hx (r := x1 + v1) dX12_keepsRow_40 rfl ?_
        have f5 := zaQ (j := (x1 + v1).toNat) hS0 (zr (k := 57) (t2 := 106) hG ha rfl) (congrArg some (axI_11 ((x1 + v1).toNat % 13221) (by omega))) (zlen hG (zr (k := 57) (t2 := 106) hG ha rfl) (n := 39663) rfl rfl) (show 0 ≤ x1 + v1 by omega) (by omega) rfl
        refine j_iald hx hG (zr (k := 57) (t2 := 106) hG ha rfl) (by decide) rfl (zlen hG (zr (k := 57) (t2 := 106) hG ha rfl) (n := 39663) rfl rfl) (by omega) (by omega) (j := (x1 + v1).toNat) rfl (v := (s0 (gP G a 57) (x1 + v1).toNat)) (by rw [(zFr_g hF_s2 (zr (k := 57) (t2 := 106) hG ha rfl) (by decide))]) dX12_keepsRow_41 ?_
        refine j_iast hx hG hb2 (by decide) rfl (zlen hG hb2 (n := 900) rfl rfl) (by omega) (by omega) (j := (v1).toNat) rfl dX12_keepsRow_42 ?_
        obtain ⟨s7, e_s7⟩ : ∃ z, z = zU s2 b2 (v1).toNat ((s0 (gP G a 57) (x1 + v1).toNat)) := ⟨_, rfl⟩
        rw [← e_s7]
        have hS_s7 : zSK G s7 := by rw [e_s7]; exact zSK_A hS_s2 hb2 rfl rfl rfl (by omega)
        refine j_iinc hx 5 [(5, .int (zI (v1 + 1))), (0, .ref a), (1, .int (zI x1)), (2, .ref b2), (3, .int (zI 900)), (4, .int (zI 0))] dX12_keepsRow_43 rfl (by omega) (by decide) rfl ?_
        refine j_goto hx 3 dX12_keepsRow_46 rfl ?_
        exact j_sub [1, 2, 3, 4, 5, 0] [(0, .ref a), (1, .int (zI x1)), (2, .ref b2), (3, .int (zI 900)), (4, .int (zI 0)), (5, .int (zI (v1 + 1)))] rfl (ih_c3_1 (v1 + 1) s7 (by omega) (by omega) hS_s7 (zFr_u (zFr_t zFr_rf hF_s2 (by decide)) e_s7 hb2 (by decide)) (zPg_s hE1 e_s7 (by omega) (by omega) rfl))
  exact j_sub [1, 2, 3, 4, 5, 0] [(0, .ref a), (1, .int (zI x1)), (2, .ref b2), (3, .int (zI 900)), (4, .int (zI 0)), (5, .int (zI 0))] rfl (c3_1 (2147483648 * 4) 0 s0 (by omega) (by omega) hS0 zFr_rf (zPg_0 rfl (by omega)))
