theorem lk_RX12_314 : LkS RX12 314 yX12_within cX12_within 3 (some .boolean) 3 := ⟨km_RX12_314, kst_yX12_within, kn_RX12, kc_yX12_within, by decide +kernel, by decide +kernel, by decide +kernel⟩
set_option maxHeartbeats 1200000 in
set_option maxRecDepth 20000 in
theorem c_X12_readPlan {E : zE} {l : Launch} (hst : l.stackTraces = false) (a : Nat) (x1 : Int) (x2 : Int) (x3 : Int) : Con E l yX12_readPlan cX12_readPlan 6 (some .int) { frames := 27, cells := 0, slots := 0, locals := 683 } (fun G s vs => vs = [.ref a, .int (zI x1), .int (zI x2), .int (zI x3)] ∧ zGK G ∧ zSK G s ∧ (gT G a = 13) ∧ ((-2147483648) ≤ x1 ∧ x1 ≤ 2147483647) ∧ ((-2147483648) ≤ x2 ∧ x2 ≤ 2147483647) ∧ ((-2147483648) ≤ x3 ∧ x3 ≤ 2147483647) ∧ (s a 0 = 0) ∧ (zRva (s (gP G a 34)) (s (gP G a 35)) (s (gP G a 37))) ∧ (0 ≤ x1 ∧ x1 ≤ 2 → x3 = x1 ∨ x3 = x1 + 3)) (fun G s _ => pI (fun r G2 s2 => G2 = G ∧ zSK G s2 ∧ zFr [13, 71, 85, 88, 89, 90, 91, 92, 93, 94] G s s2 ∧ ((-2147483648) ≤ r ∧ r ≤ 2147483647) ∧ zRva (s2 (gP G a 34)) (s2 (gP G a 35)) (s2 (gP G a 37)) ∧ s2 a 21 = s a 21 ∧ s2 a 22 = s a 22 ∧ s2 a 23 = s a 23 ∧ s2 a 24 = s a 24 ∧ s2 a 51 = s a 51 ∧ s2 a 52 = s a 52)) := by
  refine Con.mk hst (by decide) (fun G s vs h => by rw [h.1]; exact Nat.le_of_ble_eq_true rfl) ?_
  rintro X G s0 vs ⟨rfl, hG, hS0, ha, hx1, hx2, hx3, e0, e1, e2⟩ rfl hx hq
  show JJ X E 6 G s0 0 0 [(0, .ref a), (1, .int (zI x1)), (2, .int (zI x2)), (3, .int (zI x3))] 0 []
  refine j_aload_n hx 0 dX12_readPlan_0 rfl ?_
  refine j_iload_n hx 1 dX12_readPlan_1 rfl ?_
  refine j_iconst hx dX12_readPlan_2 ?_
  refine j_aload_n hx 0 dX12_readPlan_3 rfl ?_
  have f1 := zf hS0 ha (k := 24) rfl
  refine g13_24 hx hG ha kf_RX12_189 rfl dX12_readPlan_4 ?_
  refine j_iconst hx dX12_readPlan_7 ?_
  refine j_isub hx (r := (s0 a 24) - 1) dX12_readPlan_8 (by omega) ?_
  refine j_callS hx (c_X12_within hst x1 0 ((s0 a 24) - 1)) lk_RX12_314 [.int (zI x1), .int (zI 0), .int (zI ((s0 a 24) - 1))] ⟨rfl, hG, hS0, (by omega), (by omega), (by omega)⟩ rfl rfl ⟨by decide, by decide⟩ ⟨by decide, by decide⟩ (k2 := 0) (n2 := 0) rfl rfl (Nat.le_of_ble_eq_true rfl) dX12_readPlan_9 (kIP (fun v2 q3 => ?_))
  refine j_iconst hx dX12_readPlan_12 ?_
  refine j_iconst hx dX12_readPlan_13 ?_
  rcases (show v2 = 0 ∨ v2 = 1 by omega) with rfl | rfl
  · skip
    have f5 := zf hS0 ha (k := 3) rfl
    have f6 := zf hS0 ha (k := 4) rfl
    have f7 := zf hS0 ha (k := 5) rfl
    have f8 := zf hS0 ha (k := 7) rfl
    have f9 := zf hS0 ha (k := 21) rfl
    have f10 := zf hS0 ha (k := 22) rfl
    have f11 := zf hS0 ha (k := 23) rfl
    have f12 := zf hS0 ha (k := 38) rfl
    have f13 := zf hS0 ha (k := 51) rfl
    have f14 := zf hS0 ha (k := 52) rfl
    refine j_callV hx hG (c_X12_may_f hst a 0 1 0) lk_RX12_240 ha (by decide) rfl rfl rfl rfl [.int (zI 0), .int (zI 1), .int (zI 0)] ⟨rfl, hG, hS0, ha, (by omega), (by omega), (by omega), (by omega)⟩ rfl rfl ⟨by decide, by decide⟩ ⟨by decide, by decide⟩ (k2 := 0) (n2 := 0) rfl rfl (Nat.le_of_ble_eq_true rfl) dX12_readPlan_14 (kIM (fun v15 s1 hS_s1 hF_s1 q16 => ?_))
    refine j_if_eq hx 53 dX12_readPlan_17 rfl (by omega) (fun h17 => ?_) (fun h17 => absurd h17 (by omega))
    refine j_iconst hx dX12_readPlan_53 ?_
    have f18 := zf hS_s1 ha (k := 21) rfl
    have f19 := zf hS_s1 ha (k := 22) rfl
    have f20 := zf hS_s1 ha (k := 23) rfl
    have f21 := zf hS_s1 ha (k := 24) rfl
    have f22 := zf hS_s1 ha (k := 51) rfl
    have f23 := zf hS_s1 ha (k := 52) rfl
    exact j_iret hx hq rfl (by decide) (by decide) dX12_readPlan_54 ⟨0, rfl, rfl, hS_s1, (zFr_t zFr_rf hF_s1 (by decide)), ⟨(by omega), (by have q1 : s1 (gP G a 34) = s0 (gP G a 34) := (by rw [hF_s1 (gP G a 34) (by rw [(zr (k := 34) (t2 := 91) hG ha rfl)]; decide)]); have q2 : s1 (gP G a 35) = s0 (gP G a 35) := (by rw [hF_s1 (gP G a 35) (by rw [(zr (k := 35) (t2 := 92) hG ha rfl)]; decide)]); have q3 : s1 (gP G a 37) = s0 (gP G a 37) := (by rw [hF_s1 (gP G a 37) (by rw [(zr (k := 37) (t2 := 94) hG ha rfl)]; decide)]); rw [q1, q2, q3]; exact e1), by omega, by omega, by omega, by omega, by omega, by omega⟩⟩
  · skip
    refine j_callV hx hG (c_X12_may_t hst a 1 1 0) lk_RX12_240 ha (by decide) rfl rfl rfl rfl [.int (zI 1), .int (zI 1), .int (zI 0)] ⟨rfl, hG, hS0, ha, (by omega), (by omega), (by omega), (by omega)⟩ rfl rfl ⟨by decide, by decide⟩ ⟨by decide, by decide⟩ (k2 := 0) (n2 := 0) rfl rfl (Nat.le_of_ble_eq_true rfl) dX12_readPlan_14 (kIP (fun v24 q25 => ?_))
    refine j_if_eq hx 53 dX12_readPlan_17 rfl (by omega) (fun h26 => absurd h26 (by omega)) (fun h26 => ?_)
    refine j_aload_n hx 0 dX12_readPlan_20 rfl ?_
    refine j_iload_n hx 2 dX12_readPlan_21 rfl ?_
    refine j_if_lt hx 44 dX12_readPlan_22 rfl (by omega) (fun h27 => ?_) (fun h27 => ?_)
    · skip
      refine j_iconst hx dX12_readPlan_44 ?_
      refine j_iconst hx dX12_readPlan_45 ?_
      refine j_iconst hx dX12_readPlan_46 ?_
      have f28 := zf hS0 ha (k := 3) rfl
      have f29 := zf hS0 ha (k := 4) rfl
      have f30 := zf hS0 ha (k := 5) rfl
      have f31 := zf hS0 ha (k := 7) rfl
      have f32 := zf hS0 ha (k := 21) rfl
      have f33 := zf hS0 ha (k := 22) rfl
      have f34 := zf hS0 ha (k := 23) rfl
      have f35 := zf hS0 ha (k := 38) rfl
      have f36 := zf hS0 ha (k := 51) rfl
      have f37 := zf hS0 ha (k := 52) rfl
      refine j_callV hx hG (c_X12_may_f hst a 0 2 1) lk_RX12_240 ha (by decide) rfl rfl rfl rfl [.int (zI 0), .int (zI 2), .int (zI 1)] ⟨rfl, hG, hS0, ha, (by omega), (by omega), (by omega), (by omega)⟩ rfl rfl ⟨by decide, by decide⟩ ⟨by decide, by decide⟩ (k2 := 0) (n2 := 0) rfl rfl (Nat.le_of_ble_eq_true rfl) dX12_readPlan_47 (kIM (fun v38 s2 hS_s2 hF_s2 q39 => ?_))
      refine j_if_ne hx 55 dX12_readPlan_50 rfl (by omega) (fun h40 => absurd h40 (by omega)) (fun h40 => ?_)
      refine j_iconst hx dX12_readPlan_53 ?_
      have f41 := zf hS_s2 ha (k := 21) rfl
      have f42 := zf hS_s2 ha (k := 22) rfl
      have f43 := zf hS_s2 ha (k := 23) rfl
      have f44 := zf hS_s2 ha (k := 24) rfl
      have f45 := zf hS_s2 ha (k := 51) rfl
      have f46 := zf hS_s2 ha (k := 52) rfl
      exact j_iret hx hq rfl (by decide) (by decide) dX12_readPlan_54 ⟨0, rfl, rfl, hS_s2, (zFr_t zFr_rf hF_s2 (by decide)), ⟨(by omega), (by have q1 : s2 (gP G a 34) = s0 (gP G a 34) := (by rw [hF_s2 (gP G a 34) (by rw [(zr (k := 34) (t2 := 91) hG ha rfl)]; decide)]); have q2 : s2 (gP G a 35) = s0 (gP G a 35) := (by rw [hF_s2 (gP G a 35) (by rw [(zr (k := 35) (t2 := 92) hG ha rfl)]; decide)]); have q3 : s2 (gP G a 37) = s0 (gP G a 37) := (by rw [hF_s2 (gP G a 37) (by rw [(zr (k := 37) (t2 := 94) hG ha rfl)]; decide)]); rw [q1, q2, q3]; exact e1), by omega, by omega, by omega, by omega, by omega, by omega⟩⟩
    · skip
      refine j_iload_n hx 2 dX12_readPlan_25 rfl ?_
      refine j_aload_n hx 0 dX12_readPlan_26 rfl ?_
      have f47 := zf hS0 ha (k := 2) rfl
      refine g13_2 hx hG ha kf_RX12_134 rfl dX12_readPlan_27 ?_
      refine j_icmp_gt hx 44 dX12_readPlan_30 rfl (by omega) (by omega) (fun h48 => ?_) (fun h48 => ?_)
      · skip
        refine j_iconst hx dX12_readPlan_44 ?_
        refine j_iconst hx dX12_readPlan_45 ?_
        refine j_iconst hx dX12_readPlan_46 ?_
        have f49 := zf hS0 ha (k := 3) rfl
        have f50 := zf hS0 ha (k := 4) rfl
        have f51 := zf hS0 ha (k := 5) rfl
        have f52 := zf hS0 ha (k := 7) rfl
        have f53 := zf hS0 ha (k := 21) rfl
        have f54 := zf hS0 ha (k := 22) rfl
        have f55 := zf hS0 ha (k := 23) rfl
        have f56 := zf hS0 ha (k := 38) rfl
        have f57 := zf hS0 ha (k := 51) rfl
        have f58 := zf hS0 ha (k := 52) rfl
        refine j_callV hx hG (c_X12_may_f hst a 0 2 1) lk_RX12_240 ha (by decide) rfl rfl rfl rfl [.int (zI 0), .int (zI 2), .int (zI 1)] ⟨rfl, hG, hS0, ha, (by omega), (by omega), (by omega), (by omega)⟩ rfl rfl ⟨by decide, by decide⟩ ⟨by decide, by decide⟩ (k2 := 0) (n2 := 0) rfl rfl (Nat.le_of_ble_eq_true rfl) dX12_readPlan_47 (kIM (fun v59 s3 hS_s3 hF_s3 q60 => ?_))
        refine j_if_ne hx 55 dX12_readPlan_50 rfl (by omega) (fun h61 => absurd h61 (by omega)) (fun h61 => ?_)
        refine j_iconst hx dX12_readPlan_53 ?_
        have f62 := zf hS_s3 ha (k := 21) rfl
        have f63 := zf hS_s3 ha (k := 22) rfl
        have f64 := zf hS_s3 ha (k := 23) rfl
        have f65 := zf hS_s3 ha (k := 24) rfl
        have f66 := zf hS_s3 ha (k := 51) rfl
        have f67 := zf hS_s3 ha (k := 52) rfl
        exact j_iret hx hq rfl (by decide) (by decide) dX12_readPlan_54 ⟨0, rfl, rfl, hS_s3, (zFr_t zFr_rf hF_s3 (by decide)), ⟨(by omega), (by have q1 : s3 (gP G a 34) = s0 (gP G a 34) := (by rw [hF_s3 (gP G a 34) (by rw [(zr (k := 34) (t2 := 91) hG ha rfl)]; decide)]); have q2 : s3 (gP G a 35) = s0 (gP G a 35) := (by rw [hF_s3 (gP G a 35) (by rw [(zr (k := 35) (t2 := 92) hG ha rfl)]; decide)]); have q3 : s3 (gP G a 37) = s0 (gP G a 37) := (by rw [hF_s3 (gP G a 37) (by rw [(zr (k := 37) (t2 := 94) hG ha rfl)]; decide)]); rw [q1, q2, q3]; exact e1), by omega, by omega, by omega, by omega, by omega, by omega⟩⟩
      · skip
        refine j_iload_n hx 2 dX12_readPlan_33 rfl ?_
        refine j_sipush hx dX12_readPlan_34 rfl ?_
        refine j_icmp_gt hx 44 dX12_readPlan_37 rfl (by omega) ⟨by decide, by decide⟩ (fun h68 => ?_) (fun h68 => ?_)
        · skip
          refine j_iconst hx dX12_readPlan_44 ?_
          refine j_iconst hx dX12_readPlan_45 ?_
          refine j_iconst hx dX12_readPlan_46 ?_
          have f69 := zf hS0 ha (k := 3) rfl
          have f70 := zf hS0 ha (k := 4) rfl
          have f71 := zf hS0 ha (k := 5) rfl
          have f72 := zf hS0 ha (k := 7) rfl
          have f73 := zf hS0 ha (k := 21) rfl
          have f74 := zf hS0 ha (k := 22) rfl
          have f75 := zf hS0 ha (k := 23) rfl
          have f76 := zf hS0 ha (k := 38) rfl
          have f77 := zf hS0 ha (k := 51) rfl
          have f78 := zf hS0 ha (k := 52) rfl
          refine j_callV hx hG (c_X12_may_f hst a 0 2 1) lk_RX12_240 ha (by decide) rfl rfl rfl rfl [.int (zI 0), .int (zI 2), .int (zI 1)] ⟨rfl, hG, hS0, ha, (by omega), (by omega), (by omega), (by omega)⟩ rfl rfl ⟨by decide, by decide⟩ ⟨by decide, by decide⟩ (k2 := 0) (n2 := 0) rfl rfl (Nat.le_of_ble_eq_true rfl) dX12_readPlan_47 (kIM (fun v79 s4 hS_s4 hF_s4 q80 => ?_))
          refine j_if_ne hx 55 dX12_readPlan_50 rfl (by omega) (fun h81 => absurd h81 (by omega)) (fun h81 => ?_)
          refine j_iconst hx dX12_readPlan_53 ?_
          have f82 := zf hS_s4 ha (k := 21) rfl
          have f83 := zf hS_s4 ha (k := 22) rfl
          have f84 := zf hS_s4 ha (k := 23) rfl
          have f85 := zf hS_s4 ha (k := 24) rfl
          have f86 := zf hS_s4 ha (k := 51) rfl
          have f87 := zf hS_s4 ha (k := 52) rfl
          exact j_iret hx hq rfl (by decide) (by decide) dX12_readPlan_54 ⟨0, rfl, rfl, hS_s4, (zFr_t zFr_rf hF_s4 (by decide)), ⟨(by omega), (by have q1 : s4 (gP G a 34) = s0 (gP G a 34) := (by rw [hF_s4 (gP G a 34) (by rw [(zr (k := 34) (t2 := 91) hG ha rfl)]; decide)]); have q2 : s4 (gP G a 35) = s0 (gP G a 35) := (by rw [hF_s4 (gP G a 35) (by rw [(zr (k := 35) (t2 := 92) hG ha rfl)]; decide)]); have q3 : s4 (gP G a 37) = s0 (gP G a 37) := (by rw [hF_s4 (gP G a 37) (by rw [(zr (k := 37) (t2 := 94) hG ha rfl)]; decide)]); rw [q1, q2, q3]; exact e1), by omega, by omega, by omega, by omega, by omega, by omega⟩⟩
        · skip
          refine j_iconst hx dX12_readPlan_40 ?_
          refine j_goto hx 45 dX12_readPlan_41 rfl ?_
          refine j_iconst hx dX12_readPlan_45 ?_
          refine j_iconst hx dX12_readPlan_46 ?_
          refine j_callV hx hG (c_X12_may_t hst a 1 2 1) lk_RX12_240 ha (by decide) rfl rfl rfl rfl [.int (zI 1), .int (zI 2), .int (zI 1)] ⟨rfl, hG, hS0, ha, (by omega), (by omega), (by omega), (by omega)⟩ rfl rfl ⟨by decide, by decide⟩ ⟨by decide, by decide⟩ (k2 := 0) (n2 := 0) rfl rfl (Nat.le_of_ble_eq_true rfl) dX12_readPlan_47 (kIP (fun v88 q89 => ?_))
          refine j_if_ne hx 55 dX12_readPlan_50 rfl (by omega) (fun h90 => ?_) (fun h90 => absurd h90 (by omega))
          refine j_aload_n hx 0 dX12_readPlan_55 rfl ?_
          refine j_iload_n hx 2 dX12_readPlan_56 rfl ?_
          have f91 := zf hS0 ha (k := 21) rfl
          have f92 := zf hS0 ha (k := 22) rfl
          have f93 := zf hS0 ha (k := 23) rfl
          have f94 := zf hS0 ha (k := 38) rfl
          have f95 := zf hS0 ha (k := 51) rfl
          have f96 := zf hS0 ha (k := 52) rfl
          refine j_callV hx hG (c_X12_begins hst a x2) lk_RX12_244 ha (by decide) rfl rfl rfl rfl [.int (zI x2)] ⟨rfl, hG, hS0, ha, (by omega)⟩ rfl rfl ⟨by decide, by decide⟩ ⟨by decide, by decide⟩ (k2 := 0) (n2 := 0) rfl rfl (Nat.le_of_ble_eq_true rfl) dX12_readPlan_57 (kVM (fun s5 hS_s5 hF_s5 q98 => ?_))
          refine j_aload_n hx 0 dX12_readPlan_60 rfl ?_
          refine j_iconst hx dX12_readPlan_61 ?_
          refine p13_38 hx hG ha kf_RX12_269 dX12_readPlan_62 ?_
          obtain ⟨s6, e_s6⟩ : ∃ z, z = zU s5 a 38 0 := ⟨_, rfl⟩
          rw [← e_s6]
          have hS_s6 : zSK G s6 := by rw [e_s6]; exact zSK_F hS_s5 ha rfl rfl rfl (by omega)
          have hP99 : zNv (s6 a 5) (s6 (gP G a 31)) (s6 (gP G a 32)) (s6 a 38) := (fun _ => zRv_n0 (by omega))
          refine j_aload_n hx 0 dX12_readPlan_65 rfl ?_
          have g100 : s6 a 7 = s5 a 7 := (by rw [e_s6, zU_at (Or.inr (by decide))])
          have g101 : s6 a 3 = s5 a 3 := (by rw [e_s6, zU_at (Or.inr (by decide))])
          have f102 := zf hS_s5 ha (k := 3) rfl
          have g103 : s6 a 4 = s5 a 4 := (by rw [e_s6, zU_at (Or.inr (by decide))])
          have g104 : s6 a 5 = s5 a 5 := (by rw [e_s6, zU_at (Or.inr (by decide))])
          have g105 : s6 a 38 = 0 := (by rw [e_s6, zU_eq])
          have g106 : (s6 (gP G a 31)) = (s0 (gP G a 31)) := by rw [e_s6, zU_ne (zne ha (zr (k := 31) (t2 := 88) hG ha rfl) (by decide)), hF_s5 (gP G a 31) (by rw [(zr (k := 31) (t2 := 88) hG ha rfl)]; decide)]
          have g107 : zRp (s6 (gP G a 31)) 0 (s6 a 38).toNat = zRp (s0 (gP G a 31)) 0 (0).toNat := by rw [g106, show s6 a 38 = 0 by omega]
          have g108 : s6 a 0 = s5 a 0 := (by rw [e_s6, zU_at (Or.inr (by decide))])
          have f109 := zf hS_s5 ha (k := 0) rfl
          have g110 : s6 a 21 = s5 a 21 := (by rw [e_s6, zU_at (Or.inr (by decide))])
          have f111 := zf hS_s5 ha (k := 21) rfl
          have g112 : s6 a 22 = s5 a 22 := (by rw [e_s6, zU_at (Or.inr (by decide))])
          have f113 := zf hS_s5 ha (k := 22) rfl
          have g114 : s6 a 23 = s5 a 23 := (by rw [e_s6, zU_at (Or.inr (by decide))])
          have f115 := zf hS_s5 ha (k := 23) rfl
          have g116 : s6 a 24 = s5 a 24 := (by rw [e_s6, zU_at (Or.inr (by decide))])
          have f117 := zf hS_s5 ha (k := 24) rfl
          have g118 : s6 a 51 = s5 a 51 := (by rw [e_s6, zU_at (Or.inr (by decide))])
          have f119 := zf hS_s5 ha (k := 51) rfl
          have g120 : s6 a 52 = s5 a 52 := (by rw [e_s6, zU_at (Or.inr (by decide))])
          have f121 := zf hS_s5 ha (k := 52) rfl
          refine j_callV hx hG (c_X12_readAny_0 hst a) lk_RX12_289 ha (by decide) rfl rfl rfl rfl [] ⟨rfl, hG, hS_s6, ha, (((by rw [e_s6, zU_at (Or.inr (by decide))]) : s6 a 7 = s5 a 7).trans (by omega)), (by omega), (by omega), (by omega), ((zNv_k hP99 (by omega) (by omega)))⟩ rfl rfl ⟨by decide, by decide⟩ ⟨by decide, by decide⟩ (k2 := 0) (n2 := 0) rfl rfl (Nat.le_of_ble_eq_true rfl) dX12_readPlan_66 (kVM (fun s7 hS_s7 hF_s7 q123 => ?_))
          refine j_aload_n hx 0 dX12_readPlan_69 rfl ?_
          refine j_callV hx hG (c_X12_fine hst a) lk_RX12_166 ha (by decide) rfl rfl rfl rfl [] ⟨rfl, hG, hS_s7, ha⟩ rfl rfl ⟨by decide, by decide⟩ ⟨by decide, by decide⟩ (k2 := 0) (n2 := 0) rfl rfl (Nat.le_of_ble_eq_true rfl) dX12_readPlan_70 (kIP (fun v124 q125 => ?_))
          refine j_if_eq hx 92 dX12_readPlan_73 rfl (by omega) (fun h126 => ?_) (fun h126 => ?_)
          · skip
            refine j_aload_n hx 0 dX12_readPlan_92 rfl ?_
            refine j_iconst hx dX12_readPlan_93 ?_
            have f127 := zf hS_s7 ha (k := 0) rfl
            have f128 := zf hS_s7 ha (k := 3) rfl
            have f129 := zf hS_s7 ha (k := 4) rfl
            have f130 := zf hS_s7 ha (k := 5) rfl
            have f131 := zf hS_s7 ha (k := 21) rfl
            have f132 := zf hS_s7 ha (k := 22) rfl
            have f133 := zf hS_s7 ha (k := 23) rfl
            have f134 := zf hS_s7 ha (k := 24) rfl
            have f135 := zf hS_s7 ha (k := 38) rfl
            have f136 := zf hS_s7 ha (k := 51) rfl
            have f137 := zf hS_s7 ha (k := 52) rfl
            refine j_callV hx hG (c_X12_result hst a 1) lk_RX12_265 ha (by decide) rfl rfl rfl rfl [.int (zI 1)] ⟨rfl, hG, hS_s7, ha, (by omega)⟩ rfl rfl ⟨by decide, by decide⟩ ⟨by decide, by decide⟩ (k2 := 0) (n2 := 0) rfl rfl (Nat.le_of_ble_eq_true rfl) dX12_readPlan_94 (kIM (fun v138 s8 hS_s8 hF_s8 q139 => ?_))
            refine j_istore hx [(4, .int (zI v138)), (0, .ref a), (1, .int (zI x1)), (2, .int (zI x2)), (3, .int (zI x3))] dX12_readPlan_97 (by decide) rfl ?_
            refine j_aload_n hx 1 dX12_readPlan_99 rfl ?_
            have f140 := zf hS_s8 ha (k := 5) rfl
            refine g13_5 hx hG ha kf_RX12_137 rfl dX12_readPlan_100 ?_
            refine j_iconst hx dX12_readPlan_103 ?_
            refine j_icmp_eq hx 110 dX12_readPlan_104 rfl (by omega) ⟨by decide, by decide⟩ (fun h141 => ?_) (fun h141 => ?_)
            · skip
              refine j_aload_n hx 1 dX12_readPlan_110 rfl ?_
              refine g13_37 hx hG ha kf_RX12_86 dX12_readPlan_111 ?_
              refine j_iload_n hx 4 dX12_readPlan_114 rfl ?_
              refine j_aload_n hx 1 dX12_readPlan_115 rfl ?_
              have f142 := zf hS_s8 ha (k := 38) rfl
              refine g13_38 hx hG ha kf_RX12_269 rfl dX12_readPlan_116 ?_
              refine j_iast hx hG (zr (k := 37) (t2 := 94) hG ha rfl) (by decide) rfl (zlen hG (zr (k := 37) (t2 := 94) hG ha rfl) (n := 6) rfl rfl) (by omega) (by omega) (j := (x3).toNat) rfl dX12_readPlan_119 ?_
              obtain ⟨s9, e_s9⟩ : ∃ z, z = zU s8 (gP G a 37) (x3).toNat ((s8 a 38)) := ⟨_, rfl⟩
              rw [← e_s9]
              have hS_s9 : zSK G s9 := by rw [e_s9]; exact zSK_A hS_s8 (zr (k := 37) (t2 := 94) hG ha rfl) rfl rfl rfl (by omega)
              have hP143 : zUc (s9 (gP G a 37)) (s0 (gP G a 37)) x3 (s9 a 38) := zUc_of e_s9 (by rw [hF_s8 (gP G a 37) (by rw [(zr (k := 37) (t2 := 94) hG ha rfl)]; decide), hF_s7 (gP G a 37) (by rw [(zr (k := 37) (t2 := 94) hG ha rfl)]; decide), e_s6, zU_ne (zne ha (zr (k := 37) (t2 := 94) hG ha rfl) (by decide)), hF_s5 (gP G a 37) (by rw [(zr (k := 37) (t2 := 94) hG ha rfl)]; decide)])
              have hP144 : zPt (s9 (gP G a 34)) (s0 (gP G a 34)) (s9 (gP G a 31)) (150 * x3) 0 := zPt_0 (by rw [e_s9, zU_ne (zne (zr (k := 37) (t2 := 94) hG ha rfl) (zr (k := 34) (t2 := 91) hG ha rfl) (by decide)), hF_s8 (gP G a 34) (by rw [(zr (k := 34) (t2 := 91) hG ha rfl)]; decide), hF_s7 (gP G a 34) (by rw [(zr (k := 34) (t2 := 91) hG ha rfl)]; decide), e_s6, zU_ne (zne ha (zr (k := 34) (t2 := 91) hG ha rfl) (by decide)), hF_s5 (gP G a 34) (by rw [(zr (k := 34) (t2 := 91) hG ha rfl)]; decide)]) (by omega)
              have hP145 : zPt (s9 (gP G a 35)) (s0 (gP G a 35)) (s9 (gP G a 32)) (150 * x3) 0 := zPt_0 (by rw [e_s9, zU_ne (zne (zr (k := 37) (t2 := 94) hG ha rfl) (zr (k := 35) (t2 := 92) hG ha rfl) (by decide)), hF_s8 (gP G a 35) (by rw [(zr (k := 35) (t2 := 92) hG ha rfl)]; decide), hF_s7 (gP G a 35) (by rw [(zr (k := 35) (t2 := 92) hG ha rfl)]; decide), e_s6, zU_ne (zne ha (zr (k := 35) (t2 := 92) hG ha rfl) (by decide)), hF_s5 (gP G a 35) (by rw [(zr (k := 35) (t2 := 92) hG ha rfl)]; decide)]) (by omega)
              refine j_iconst hx dX12_readPlan_120 ?_
              refine j_istore hx [(5, .int (zI 0)), (4, .int (zI v138)), (0, .ref a), (1, .int (zI x1)), (2, .int (zI x2)), (3, .int (zI x3))] dX12_readPlan_121 (by decide) rfl ?_
              have c123_10 : ∀ (m_c123_10 : Nat) (v146 : Int) (s11 : zS), 2147483648 - v146 < m_c123_10 → (0 ≤ v146 ∧ v146 ≤ 150) → (zSK G s11) → (zFr [91, 92, 93] G s9 s11) → (zPt (s11 (gP G a 34)) (s0 (gP G a 34)) (s11 (gP G a 31)) (150 * x3) (v146)) → (zPt (s11 (gP G a 35)) (s0 (gP G a 35)) (s11 (gP G a 32)) (150 * x3) (v146)) → JJ X E 6 G s11 0 0 [(0, .ref a), (3, .int (zI x3)), (4, .int (zI v138)), (5, .int (zI v146))] 123 [] := by
                intro m_c123_10
                induction m_c123_10 with
                | zero => intro v146 s11 hm_c123_10 fA12 hS_s11 hF_s11 fA15 fA16; exfalso; omega
                | succ m_c123_10 ih_c123_10 => 
                  intro v146 s11 hm_c123_10 fA12 hS_s11 hF_s11 fA15 fA16
                  refine j_iload hx 3 dX12_readPlan_123 rfl ?_
                  refine j_aload_n hx 0 dX12_readPlan_125 rfl ?_
                  refine g13_38 hx hG ha kf_RX12_269 (v := (s8 a 38)) (by rw [(zFr_g hF_s11 ha (by decide)), e_s9, zU_at (Or.inl (zne (zr (k := 37) (t2 := 94) hG ha rfl) ha (by decide)))]) dX12_readPlan_126 ?_
                  refine j_icmp_ge hx 198 dX12_readPlan_129 rfl (by omega) (by omega) (fun h147 => ?_) (fun h147 => ?_)
                  · skip
                    have hP148 : zRva (s11 (gP G a 34)) (s11 (gP G a 35)) (s11 (gP G a 37)) := zRva_in e1 (zPt_nn fA15 (by omega) (by omega)) (zPt_nn fA16 (by omega) (by omega)) (by have q1 : s11 (gP G a 37) = s9 (gP G a 37) := (by rw [hF_s11 (gP G a 37) (by rw [(zr (k := 37) (t2 := 94) hG ha rfl)]; decide)]); rw [q1]; exact (zUc_nn hP143 (by omega) (by omega))) ((by have q1 : s11 (gP G a 31) = s7 (gP G a 31) := (by rw [hF_s11 (gP G a 31) (by rw [(zr (k := 31) (t2 := 88) hG ha rfl)]; decide), e_s9, zU_ne (zne (zr (k := 37) (t2 := 94) hG ha rfl) (zr (k := 31) (t2 := 88) hG ha rfl) (by decide)), hF_s8 (gP G a 31) (by rw [(zr (k := 31) (t2 := 88) hG ha rfl)]; decide)]); have q2 : s11 (gP G a 32) = s7 (gP G a 32) := (by rw [hF_s11 (gP G a 32) (by rw [(zr (k := 32) (t2 := 89) hG ha rfl)]; decide), e_s9, zU_ne (zne (zr (k := 37) (t2 := 94) hG ha rfl) (zr (k := 32) (t2 := 89) hG ha rfl) (by decide)), hF_s8 (gP G a 32) (by rw [(zr (k := 32) (t2 := 89) hG ha rfl)]; decide)]); rw [q1, q2]; exact (zNv_k q123.2.2.2.2.2.1 (by omega) (by omega))) (by omega)) (fun j hj => (za hS0 (zr (k := 37) (t2 := 94) hG ha rfl) (lo := 0) (hi := 150) rfl (by rw [zn hG (zr (k := 37) (t2 := 94) hG ha rfl) (n := 6) rfl]; exact hj)).2) (by omega)
                    refine j_aload_n hx 0 dX12_readPlan_198 rfl ?_
                    have g149 : zc (s11 (gP G a 27)) = zc (s0 (gP G a 27)) := by rw [hF_s11 (gP G a 27) (by rw [(zr (k := 27) (t2 := 84) hG ha rfl)]; decide), e_s9, zU_ne (zne (zr (k := 37) (t2 := 94) hG ha rfl) (zr (k := 27) (t2 := 84) hG ha rfl) (by decide)), hF_s8 (gP G a 27) (by rw [(zr (k := 27) (t2 := 84) hG ha rfl)]; decide), hF_s7 (gP G a 27) (by rw [(zr (k := 27) (t2 := 84) hG ha rfl)]; decide), e_s6, zU_ne (zne ha (zr (k := 27) (t2 := 84) hG ha rfl) (by decide)), hF_s5 (gP G a 27) (by rw [(zr (k := 27) (t2 := 84) hG ha rfl)]; decide)]
                    have g150 : s11 (gP G a 27) 488 = s0 (gP G a 27) 488 := (by rw [(zFr_g hF_s11 (zr (k := 27) (t2 := 84) hG ha rfl) (by decide)), e_s9, zU_at (Or.inl (zne (zr (k := 37) (t2 := 94) hG ha rfl) (zr (k := 27) (t2 := 84) hG ha rfl) (by decide))), (zFr_g hF_s8 (zr (k := 27) (t2 := 84) hG ha rfl) (by decide)), (zFr_g hF_s7 (zr (k := 27) (t2 := 84) hG ha rfl) (by decide)), e_s6, zU_at (Or.inl (zne ha (zr (k := 27) (t2 := 84) hG ha rfl) (by decide))), (zFr_g hF_s5 (zr (k := 27) (t2 := 84) hG ha rfl) (by decide))])
                    refine j_callV hx hG (c_X12_stays hst a) lk_RX12_207 ha (by decide) rfl rfl rfl rfl [] ⟨rfl, hG, hS_s11, ha⟩ rfl rfl ⟨by decide, by decide⟩ ⟨by decide, by decide⟩ (k2 := 0) (n2 := 0) rfl rfl (Nat.le_of_ble_eq_true rfl) dX12_readPlan_199 (kVM (fun s17 hS_s17 hF_s17 q152 => ?_))
                    refine j_iload hx 2 dX12_readPlan_202 rfl ?_
                    have g153 : s17 a 21 = s8 a 21 := (by rw [(zFr_g hF_s17 ha (by decide)), (zFr_g hF_s11 ha (by decide)), e_s9, zU_at (Or.inl (zne (zr (k := 37) (t2 := 94) hG ha rfl) ha (by decide)))])
                    have f154 := zf hS_s8 ha (k := 21) rfl
                    have g155 : s17 a 22 = s8 a 22 := (by rw [(zFr_g hF_s17 ha (by decide)), (zFr_g hF_s11 ha (by decide)), e_s9, zU_at (Or.inl (zne (zr (k := 37) (t2 := 94) hG ha rfl) ha (by decide)))])
                    have f156 := zf hS_s8 ha (k := 22) rfl
                    have g157 : s17 a 23 = s8 a 23 := (by rw [(zFr_g hF_s17 ha (by decide)), (zFr_g hF_s11 ha (by decide)), e_s9, zU_at (Or.inl (zne (zr (k := 37) (t2 := 94) hG ha rfl) ha (by decide)))])
                    have f158 := zf hS_s8 ha (k := 23) rfl
                    have g159 : s17 a 24 = s8 a 24 := (by rw [(zFr_g hF_s17 ha (by decide)), (zFr_g hF_s11 ha (by decide)), e_s9, zU_at (Or.inl (zne (zr (k := 37) (t2 := 94) hG ha rfl) ha (by decide)))])
                    have f160 := zf hS_s8 ha (k := 24) rfl
                    have g161 : s17 a 51 = s8 a 51 := (by rw [(zFr_g hF_s17 ha (by decide)), (zFr_g hF_s11 ha (by decide)), e_s9, zU_at (Or.inl (zne (zr (k := 37) (t2 := 94) hG ha rfl) ha (by decide)))])
                    have f162 := zf hS_s8 ha (k := 51) rfl
                    have g163 : s17 a 52 = s8 a 52 := (by rw [(zFr_g hF_s17 ha (by decide)), (zFr_g hF_s11 ha (by decide)), e_s9, zU_at (Or.inl (zne (zr (k := 37) (t2 := 94) hG ha rfl) ha (by decide)))])
                    have f164 := zf hS_s8 ha (k := 52) rfl
                    exact j_iret hx hq rfl (by decide) (by decide) dX12_readPlan_204 ⟨v138, rfl, rfl, hS_s17, (zFr_t (zFr_t (zFr_u (zFr_t (zFr_t (zFr_u (zFr_t zFr_rf hF_s5 (by decide)) e_s6 ha (by decide)) hF_s7 (by decide)) hF_s8 (by decide)) e_s9 (zr (k := 37) (t2 := 94) hG ha rfl) (by decide)) hF_s11 (by decide)) hF_s17 (by decide)), ⟨(by omega), (by have q1 : s17 (gP G a 34) = s11 (gP G a 34) := (by rw [hF_s17 (gP G a 34) (by rw [(zr (k := 34) (t2 := 91) hG ha rfl)]; decide)]); have q2 : s17 (gP G a 35) = s11 (gP G a 35) := (by rw [hF_s17 (gP G a 35) (by rw [(zr (k := 35) (t2 := 92) hG ha rfl)]; decide)]); have q3 : s17 (gP G a 37) = s11 (gP G a 37) := (by rw [hF_s17 (gP G a 37) (by rw [(zr (k := 37) (t2 := 94) hG ha rfl)]; decide)]); rw [q1, q2, q3]; exact hP148), by omega, by omega, by omega, by omega, by omega, by omega⟩⟩
                  · skip
                    refine j_aload_n hx 0 dX12_readPlan_132 rfl ?_
                    refine g13_34 hx hG ha kf_RX12_77 dX12_readPlan_133 ?_
                    refine j_sipush hx dX12_readPlan_136 rfl ?_
                    refine j_iload_n hx 1 dX12_readPlan_139 rfl ?_
                    refine j_imul hx (r := 150 * x3) dX12_readPlan_140 rfl ?_
                    refine j_iload hx 3 dX12_readPlan_141 rfl ?_
                    refine j_iadd hx (r := 150 * x3 + v146) dX12_readPlan_143 (by omega) ?_
                    refine j_aload_n hx 0 dX12_readPlan_144 rfl ?_
                    refine g13_31 hx hG ha kf_RX12_68 dX12_readPlan_145 ?_
                    refine j_iload hx 3 dX12_readPlan_148 rfl ?_
                    have f165 := zaI (j := (v146).toNat) hS_s7 (zr (k := 31) (t2 := 88) hG ha rfl) rfl (zlen hG (zr (k := 31) (t2 := 88) hG ha rfl) (n := 150) rfl rfl) (show 0 ≤ v146 by omega) (by omega) rfl
                    refine j_iald hx hG (zr (k := 31) (t2 := 88) hG ha rfl) (by decide) rfl (zlen hG (zr (k := 31) (t2 := 88) hG ha rfl) (n := 150) rfl rfl) (by omega) (by omega) (j := (v146).toNat) rfl (v := (s7 (gP G a 31) (v146).toNat)) (by rw [(zFr_g hF_s11 (zr (k := 31) (t2 := 88) hG ha rfl) (by decide)), e_s9, zU_at (Or.inl (zne (zr (k := 37) (t2 := 94) hG ha rfl) (zr (k := 31) (t2 := 88) hG ha rfl) (by decide))), (zFr_g hF_s8 (zr (k := 31) (t2 := 88) hG ha rfl) (by decide))]) dX12_readPlan_150 ?_
                    refine j_iast hx hG (zr (k := 34) (t2 := 91) hG ha rfl) (by decide) rfl (zlen hG (zr (k := 34) (t2 := 91) hG ha rfl) (n := 900) rfl rfl) (by omega) (by omega) (j := (150 * x3 + v146).toNat) rfl dX12_readPlan_151 ?_
                    obtain ⟨s18, e_s18⟩ : ∃ z, z = zU s11 (gP G a 34) (150 * x3 + v146).toNat ((s7 (gP G a 31) (v146).toNat)) := ⟨_, rfl⟩
                    rw [← e_s18]
                    have hS_s18 : zSK G s18 := by rw [e_s18]; exact zSK_A hS_s11 (zr (k := 34) (t2 := 91) hG ha rfl) rfl rfl rfl (by omega)
                    have hP166 : zPt (s18 (gP G a 34)) (s0 (gP G a 34)) (s18 (gP G a 31)) (150 * x3) (v146 + 1) := zPt_s (zPt_nn fA15 (by omega) (by omega)) e_s18 (by omega) (by omega) (by omega) rfl
                    refine j_aload_n hx 0 dX12_readPlan_152 rfl ?_
                    refine g13_35 hx hG ha kf_RX12_80 dX12_readPlan_153 ?_
                    refine j_sipush hx dX12_readPlan_156 rfl ?_
                    refine j_iload_n hx 1 dX12_readPlan_159 rfl ?_
                    refine j_imul hx (r := 150 * x3) dX12_readPlan_160 rfl ?_
                    refine j_iload hx 3 dX12_readPlan_161 rfl ?_
                    refine j_iadd hx (r := 150 * x3 + v146) dX12_readPlan_163 (by omega) ?_
                    refine j_aload_n hx 0 dX12_readPlan_164 rfl ?_
                    refine g13_32 hx hG ha kf_RX12_71 dX12_readPlan_165 ?_
                    refine j_iload hx 3 dX12_readPlan_168 rfl ?_
                    have f167 := zaI (j := (v146).toNat) hS_s7 (zr (k := 32) (t2 := 89) hG ha rfl) rfl (zlen hG (zr (k := 32) (t2 := 89) hG ha rfl) (n := 150) rfl rfl) (show 0 ≤ v146 by omega) (by omega) rfl
                    refine j_iald hx hG (zr (k := 32) (t2 := 89) hG ha rfl) (by decide) rfl (zlen hG (zr (k := 32) (t2 := 89) hG ha rfl) (n := 150) rfl rfl) (by omega) (by omega) (j := (v146).toNat) rfl (v := (s7 (gP G a 32) (v146).toNat)) (by rw [e_s18, zU_at (Or.inl (zne (zr (k := 34) (t2 := 91) hG ha rfl) (zr (k := 32) (t2 := 89) hG ha rfl) (by decide))), (zFr_g hF_s11 (zr (k := 32) (t2 := 89) hG ha rfl) (by decide)), e_s9, zU_at (Or.inl (zne (zr (k := 37) (t2 := 94) hG ha rfl) (zr (k := 32) (t2 := 89) hG ha rfl) (by decide))), (zFr_g hF_s8 (zr (k := 32) (t2 := 89) hG ha rfl) (by decide))]) dX12_readPlan_170 ?_
                    refine j_iast hx hG (zr (k := 35) (t2 := 92) hG ha rfl) (by decide) rfl (zlen hG (zr (k := 35) (t2 := 92) hG ha rfl) (n := 900) rfl rfl) (by omega) (by omega) (j := (150 * x3 + v146).toNat) rfl dX12_readPlan_171 ?_
                    obtain ⟨s19, e_s19⟩ : ∃ z, z = zU s18 (gP G a 35) (150 * x3 + v146).toNat ((s7 (gP G a 32) (v146).toNat)) := ⟨_, rfl⟩
                    rw [← e_s19]
                    have hS_s19 : zSK G s19 := by rw [e_s19]; exact zSK_A hS_s18 (zr (k := 35) (t2 := 92) hG ha rfl) rfl rfl rfl (by omega)
                    have hP168 : zPt (s19 (gP G a 35)) (s0 (gP G a 35)) (s19 (gP G a 32)) (150 * x3) (v146 + 1) := zPt_s (by have q1 : s18 (gP G a 35) = s11 (gP G a 35) := (by rw [e_s18, zU_ne (zne (zr (k := 34) (t2 := 91) hG ha rfl) (zr (k := 35) (t2 := 92) hG ha rfl) (by decide))]); have q2 : s18 (gP G a 32) = s11 (gP G a 32) := (by rw [e_s18, zU_ne (zne (zr (k := 34) (t2 := 91) hG ha rfl) (zr (k := 32) (t2 := 89) hG ha rfl) (by decide))]); rw [q1, q2]; exact (zPt_nn fA16 (by omega) (by omega))) e_s19 (by omega) (by omega) (by omega) rfl
                    refine j_aload_n hx 0 dX12_readPlan_172 rfl ?_
                    refine g13_36 hx hG ha kf_RX12_83 dX12_readPlan_173 ?_
                    refine j_sipush hx dX12_readPlan_176 rfl ?_
                    refine j_iload_n hx 1 dX12_readPlan_179 rfl ?_
                    refine j_imul hx (r := 150 * x3) dX12_readPlan_180 rfl ?_
                    refine j_iload hx 3 dX12_readPlan_181 rfl ?_
                    refine j_iadd hx (r := 150 * x3 + v146) dX12_readPlan_183 (by omega) ?_
                    refine j_aload_n hx 0 dX12_readPlan_184 rfl ?_
                    refine g13_33 hx hG ha kf_RX12_74 dX12_readPlan_185 ?_
                    refine j_iload hx 3 dX12_readPlan_188 rfl ?_
                    have f169 := zaI (j := (v146).toNat) hS_s7 (zr (k := 33) (t2 := 90) hG ha rfl) rfl (zlen hG (zr (k := 33) (t2 := 90) hG ha rfl) (n := 150) rfl rfl) (show 0 ≤ v146 by omega) (by omega) rfl
                    refine j_iald hx hG (zr (k := 33) (t2 := 90) hG ha rfl) (by decide) rfl (zlen hG (zr (k := 33) (t2 := 90) hG ha rfl) (n := 150) rfl rfl) (by omega) (by omega) (j := (v146).toNat) rfl (v := (s7 (gP G a 33) (v146).toNat)) (by rw [e_s19, zU_at (Or.inl (zne (zr (k := 35) (t2 := 92) hG ha rfl) (zr (k := 33) (t2 := 90) hG ha rfl) (by decide))), e_s18, zU_at (Or.inl (zne (zr (k := 34) (t2 := 91) hG ha rfl) (zr (k := 33) (t2 := 90) hG ha rfl) (by decide))), (zFr_g hF_s11 (zr (k := 33) (t2 := 90) hG ha rfl) (by decide)), e_s9, zU_at (Or.inl (zne (zr (k := 37) (t2 := 94) hG ha rfl) (zr (k := 33) (t2 := 90) hG ha rfl) (by decide))), (zFr_g hF_s8 (zr (k := 33) (t2 := 90) hG ha rfl) (by decide))]) dX12_readPlan_190 ?_
                    refine j_iast hx hG (zr (k := 36) (t2 := 93) hG ha rfl) (by decide) rfl (zlen hG (zr (k := 36) (t2 := 93) hG ha rfl) (n := 900) rfl rfl) (by omega) (by omega) (j := (150 * x3 + v146).toNat) rfl dX12_readPlan_191 ?_
                    obtain ⟨s20, e_s20⟩ : ∃ z, z = zU s19 (gP G a 36) (150 * x3 + v146).toNat ((s7 (gP G a 33) (v146).toNat)) := ⟨_, rfl⟩
                    rw [← e_s20]
                    have hS_s20 : zSK G s20 := by rw [e_s20]; exact zSK_A hS_s19 (zr (k := 36) (t2 := 93) hG ha rfl) rfl rfl rfl (by omega)
                    refine j_iinc hx 3 [(5, .int (zI (v146 + 1))), (0, .ref a), (3, .int (zI x3)), (4, .int (zI v138))] dX12_readPlan_192 rfl (by omega) (by decide) rfl ?_
                    refine j_goto hx 123 dX12_readPlan_195 rfl ?_
                    exact j_sub [1, 2, 3, 0] [(0, .ref a), (3, .int (zI x3)), (4, .int (zI v138)), (5, .int (zI (v146 + 1)))] rfl (ih_c123_10 (v146 + 1) s20 (by omega) (by omega) hS_s20 (zFr_u (zFr_u (zFr_u (zFr_t zFr_rf hF_s11 (by decide)) e_s18 (zr (k := 34) (t2 := 91) hG ha rfl) (by decide)) e_s19 (zr (k := 35) (t2 := 92) hG ha rfl) (by decide)) e_s20 (zr (k := 36) (t2 := 93) hG ha rfl) (by decide)) (by have q1 : s20 (gP G a 34) = s18 (gP G a 34) := (by rw [e_s20, zU_ne (zne (zr (k := 36) (t2 := 93) hG ha rfl) (zr (k := 34) (t2 := 91) hG ha rfl) (by decide)), e_s19, zU_ne (zne (zr (k := 35) (t2 := 92) hG ha rfl) (zr (k := 34) (t2 := 91) hG ha rfl) (by decide))]); have q2 : s20 (gP G a 31) = s18 (gP G a 31) := (by rw [e_s20, zU_ne (zne (zr (k := 36) (t2 := 93) hG ha rfl) (zr (k := 31) (t2 := 88) hG ha rfl) (by decide)), e_s19, zU_ne (zne (zr (k := 35) (t2 := 92) hG ha rfl) (zr (k := 31) (t2 := 88) hG ha rfl) (by decide))]); rw [q1, q2]; exact (zPt_nn hP166 (by omega) (by omega))) (by have q1 : s20 (gP G a 35) = s19 (gP G a 35) := (by rw [e_s20, zU_ne (zne (zr (k := 36) (t2 := 93) hG ha rfl) (zr (k := 35) (t2 := 92) hG ha rfl) (by decide))]); have q2 : s20 (gP G a 32) = s19 (gP G a 32) := (by rw [e_s20, zU_ne (zne (zr (k := 36) (t2 := 93) hG ha rfl) (zr (k := 32) (t2 := 89) hG ha rfl) (by decide))]); rw [q1, q2]; exact (zPt_nn hP168 (by omega) (by omega))))
              exact j_sub [2, 5, 1, 0] [(0, .ref a), (3, .int (zI x3)), (4, .int (zI v138)), (5, .int (zI 0))] rfl (c123_10 (2147483648 * 4) 0 s9 (by omega) (by omega) hS_s9 zFr_rf (zPt_nn hP144 (by omega) (by omega)) (zPt_nn hP145 (by omega) (by omega)))
            · skip
              refine j_iload hx 0 dX12_readPlan_107 rfl ?_
              have f170 := zf hS_s8 ha (k := 21) rfl
              have f171 := zf hS_s8 ha (k := 22) rfl
              have f172 := zf hS_s8 ha (k := 23) rfl
              have f173 := zf hS_s8 ha (k := 24) rfl
              have f174 := zf hS_s8 ha (k := 51) rfl
              have f175 := zf hS_s8 ha (k := 52) rfl
              exact j_iret hx hq rfl (by decide) (by decide) dX12_readPlan_109 ⟨v138, rfl, rfl, hS_s8, (zFr_t (zFr_t (zFr_u (zFr_t zFr_rf hF_s5 (by decide)) e_s6 ha (by decide)) hF_s7 (by decide)) hF_s8 (by decide)), ⟨(by omega), (by have q1 : s8 (gP G a 34) = s0 (gP G a 34) := (by rw [hF_s8 (gP G a 34) (by rw [(zr (k := 34) (t2 := 91) hG ha rfl)]; decide), hF_s7 (gP G a 34) (by rw [(zr (k := 34) (t2 := 91) hG ha rfl)]; decide), e_s6, zU_ne (zne ha (zr (k := 34) (t2 := 91) hG ha rfl) (by decide)), hF_s5 (gP G a 34) (by rw [(zr (k := 34) (t2 := 91) hG ha rfl)]; decide)]); have q2 : s8 (gP G a 35) = s0 (gP G a 35) := (by rw [hF_s8 (gP G a 35) (by rw [(zr (k := 35) (t2 := 92) hG ha rfl)]; decide), hF_s7 (gP G a 35) (by rw [(zr (k := 35) (t2 := 92) hG ha rfl)]; decide), e_s6, zU_ne (zne ha (zr (k := 35) (t2 := 92) hG ha rfl) (by decide)), hF_s5 (gP G a 35) (by rw [(zr (k := 35) (t2 := 92) hG ha rfl)]; decide)]); have q3 : s8 (gP G a 37) = s0 (gP G a 37) := (by rw [hF_s8 (gP G a 37) (by rw [(zr (k := 37) (t2 := 94) hG ha rfl)]; decide), hF_s7 (gP G a 37) (by rw [(zr (k := 37) (t2 := 94) hG ha rfl)]; decide), e_s6, zU_ne (zne ha (zr (k := 37) (t2 := 94) hG ha rfl) (by decide)), hF_s5 (gP G a 37) (by rw [(zr (k := 37) (t2 := 94) hG ha rfl)]; decide)]); rw [q1, q2, q3]; exact e1), by omega, by omega, by omega, by omega, by omega, by omega⟩⟩
          · skip
            refine j_aload_n hx 0 dX12_readPlan_76 rfl ?_
            have f176 := zf hS_s7 ha (k := 4) rfl
            have f177 := zf hS_s7 ha (k := 3) rfl
            have f178 := zf hS_s7 ha (k := 0) rfl
            have f179 := zf hS_s7 ha (k := 5) rfl
            have f180 := zf hS_s7 ha (k := 21) rfl
            have f181 := zf hS_s7 ha (k := 22) rfl
            have f182 := zf hS_s7 ha (k := 23) rfl
            have f183 := zf hS_s7 ha (k := 24) rfl
            have f184 := zf hS_s7 ha (k := 38) rfl
            have f185 := zf hS_s7 ha (k := 51) rfl
            have f186 := zf hS_s7 ha (k := 52) rfl
            refine j_callV hx hG (c_X12_isMore hst a) lk_RX12_247 ha (by decide) rfl rfl rfl rfl [] ⟨rfl, hG, hS_s7, ha, (by omega)⟩ rfl rfl ⟨by decide, by decide⟩ ⟨by decide, by decide⟩ (k2 := 0) (n2 := 0) rfl rfl (Nat.le_of_ble_eq_true rfl) dX12_readPlan_77 (kIM (fun v187 s21 hS_s21 hF_s21 q188 => ?_))
            refine j_if_eq hx 92 dX12_readPlan_80 rfl (by omega) (fun h189 => ?_) (fun h189 => ?_)
            · skip
              refine j_aload_n hx 0 dX12_readPlan_92 rfl ?_
              refine j_iconst hx dX12_readPlan_93 ?_
              have f190 := zf hS_s21 ha (k := 0) rfl
              have f191 := zf hS_s21 ha (k := 3) rfl
              have f192 := zf hS_s21 ha (k := 4) rfl
              have f193 := zf hS_s21 ha (k := 5) rfl
              have f194 := zf hS_s21 ha (k := 7) rfl
              have f195 := zf hS_s21 ha (k := 21) rfl
              have f196 := zf hS_s21 ha (k := 22) rfl
              have f197 := zf hS_s21 ha (k := 23) rfl
              have f198 := zf hS_s21 ha (k := 24) rfl
              have f199 := zf hS_s21 ha (k := 38) rfl
              have f200 := zf hS_s21 ha (k := 51) rfl
              have f201 := zf hS_s21 ha (k := 52) rfl
              refine j_callV hx hG (c_X12_result hst a 1) lk_RX12_265 ha (by decide) rfl rfl rfl rfl [.int (zI 1)] ⟨rfl, hG, hS_s21, ha, (by omega)⟩ rfl rfl ⟨by decide, by decide⟩ ⟨by decide, by decide⟩ (k2 := 0) (n2 := 0) rfl rfl (Nat.le_of_ble_eq_true rfl) dX12_readPlan_94 (kIM (fun v202 s22 hS_s22 hF_s22 q203 => ?_))
              refine j_istore hx [(4, .int (zI v202)), (0, .ref a), (1, .int (zI x1)), (2, .int (zI x2)), (3, .int (zI x3))] dX12_readPlan_97 (by decide) rfl ?_
              refine j_aload_n hx 1 dX12_readPlan_99 rfl ?_
              have f204 := zf hS_s22 ha (k := 5) rfl
              refine g13_5 hx hG ha kf_RX12_137 rfl dX12_readPlan_100 ?_
              refine j_iconst hx dX12_readPlan_103 ?_
              refine j_icmp_eq hx 110 dX12_readPlan_104 rfl (by omega) ⟨by decide, by decide⟩ (fun h205 => ?_) (fun h205 => ?_)
              · skip
                refine j_aload_n hx 1 dX12_readPlan_110 rfl ?_
                refine g13_37 hx hG ha kf_RX12_86 dX12_readPlan_111 ?_
                refine j_iload_n hx 4 dX12_readPlan_114 rfl ?_
                refine j_aload_n hx 1 dX12_readPlan_115 rfl ?_
                have f206 := zf hS_s22 ha (k := 38) rfl
                refine g13_38 hx hG ha kf_RX12_269 rfl dX12_readPlan_116 ?_
                refine j_iast hx hG (zr (k := 37) (t2 := 94) hG ha rfl) (by decide) rfl (zlen hG (zr (k := 37) (t2 := 94) hG ha rfl) (n := 6) rfl rfl) (by omega) (by omega) (j := (x3).toNat) rfl dX12_readPlan_119 ?_
                obtain ⟨s23, e_s23⟩ : ∃ z, z = zU s22 (gP G a 37) (x3).toNat ((s22 a 38)) := ⟨_, rfl⟩
                rw [← e_s23]
                have hS_s23 : zSK G s23 := by rw [e_s23]; exact zSK_A hS_s22 (zr (k := 37) (t2 := 94) hG ha rfl) rfl rfl rfl (by omega)
                have hP207 : zUc (s23 (gP G a 37)) (s0 (gP G a 37)) x3 (s23 a 38) := zUc_of e_s23 (by rw [hF_s22 (gP G a 37) (by rw [(zr (k := 37) (t2 := 94) hG ha rfl)]; decide), hF_s21 (gP G a 37) (by rw [(zr (k := 37) (t2 := 94) hG ha rfl)]; decide), hF_s7 (gP G a 37) (by rw [(zr (k := 37) (t2 := 94) hG ha rfl)]; decide), e_s6, zU_ne (zne ha (zr (k := 37) (t2 := 94) hG ha rfl) (by decide)), hF_s5 (gP G a 37) (by rw [(zr (k := 37) (t2 := 94) hG ha rfl)]; decide)])
                have hP208 : zPt (s23 (gP G a 34)) (s0 (gP G a 34)) (s23 (gP G a 31)) (150 * x3) 0 := zPt_0 (by rw [e_s23, zU_ne (zne (zr (k := 37) (t2 := 94) hG ha rfl) (zr (k := 34) (t2 := 91) hG ha rfl) (by decide)), hF_s22 (gP G a 34) (by rw [(zr (k := 34) (t2 := 91) hG ha rfl)]; decide), hF_s21 (gP G a 34) (by rw [(zr (k := 34) (t2 := 91) hG ha rfl)]; decide), hF_s7 (gP G a 34) (by rw [(zr (k := 34) (t2 := 91) hG ha rfl)]; decide), e_s6, zU_ne (zne ha (zr (k := 34) (t2 := 91) hG ha rfl) (by decide)), hF_s5 (gP G a 34) (by rw [(zr (k := 34) (t2 := 91) hG ha rfl)]; decide)]) (by omega)
                have hP209 : zPt (s23 (gP G a 35)) (s0 (gP G a 35)) (s23 (gP G a 32)) (150 * x3) 0 := zPt_0 (by rw [e_s23, zU_ne (zne (zr (k := 37) (t2 := 94) hG ha rfl) (zr (k := 35) (t2 := 92) hG ha rfl) (by decide)), hF_s22 (gP G a 35) (by rw [(zr (k := 35) (t2 := 92) hG ha rfl)]; decide), hF_s21 (gP G a 35) (by rw [(zr (k := 35) (t2 := 92) hG ha rfl)]; decide), hF_s7 (gP G a 35) (by rw [(zr (k := 35) (t2 := 92) hG ha rfl)]; decide), e_s6, zU_ne (zne ha (zr (k := 35) (t2 := 92) hG ha rfl) (by decide)), hF_s5 (gP G a 35) (by rw [(zr (k := 35) (t2 := 92) hG ha rfl)]; decide)]) (by omega)
                refine j_iconst hx dX12_readPlan_120 ?_
                refine j_istore hx [(5, .int (zI 0)), (4, .int (zI v202)), (0, .ref a), (1, .int (zI x1)), (2, .int (zI x2)), (3, .int (zI x3))] dX12_readPlan_121 (by decide) rfl ?_
                have c123_24 : ∀ (m_c123_24 : Nat) (v210 : Int) (s25 : zS), 2147483648 - v210 < m_c123_24 → (0 ≤ v210 ∧ v210 ≤ 150) → (zSK G s25) → (zFr [91, 92, 93] G s23 s25) → (zPt (s25 (gP G a 34)) (s0 (gP G a 34)) (s25 (gP G a 31)) (150 * x3) (v210)) → (zPt (s25 (gP G a 35)) (s0 (gP G a 35)) (s25 (gP G a 32)) (150 * x3) (v210)) → JJ X E 6 G s25 0 0 [(0, .ref a), (3, .int (zI x3)), (4, .int (zI v202)), (5, .int (zI v210))] 123 [] := by
                  intro m_c123_24
                  induction m_c123_24 with
                  | zero => intro v210 s25 hm_c123_24 fA26 hS_s25 hF_s25 fA29 fA30; exfalso; omega
                  | succ m_c123_24 ih_c123_24 => 
                    intro v210 s25 hm_c123_24 fA26 hS_s25 hF_s25 fA29 fA30
                    refine j_iload hx 3 dX12_readPlan_123 rfl ?_
                    refine j_aload_n hx 0 dX12_readPlan_125 rfl ?_
                    refine g13_38 hx hG ha kf_RX12_269 (v := (s22 a 38)) (by rw [(zFr_g hF_s25 ha (by decide)), e_s23, zU_at (Or.inl (zne (zr (k := 37) (t2 := 94) hG ha rfl) ha (by decide)))]) dX12_readPlan_126 ?_
                    refine j_icmp_ge hx 198 dX12_readPlan_129 rfl (by omega) (by omega) (fun h211 => ?_) (fun h211 => ?_)
                    · skip
                      have hP212 : zRva (s25 (gP G a 34)) (s25 (gP G a 35)) (s25 (gP G a 37)) := zRva_in e1 (zPt_nn fA29 (by omega) (by omega)) (zPt_nn fA30 (by omega) (by omega)) (by have q1 : s25 (gP G a 37) = s23 (gP G a 37) := (by rw [hF_s25 (gP G a 37) (by rw [(zr (k := 37) (t2 := 94) hG ha rfl)]; decide)]); rw [q1]; exact (zUc_nn hP207 (by omega) (by omega))) ((by have q1 : s25 (gP G a 31) = s7 (gP G a 31) := (by rw [hF_s25 (gP G a 31) (by rw [(zr (k := 31) (t2 := 88) hG ha rfl)]; decide), e_s23, zU_ne (zne (zr (k := 37) (t2 := 94) hG ha rfl) (zr (k := 31) (t2 := 88) hG ha rfl) (by decide)), hF_s22 (gP G a 31) (by rw [(zr (k := 31) (t2 := 88) hG ha rfl)]; decide), hF_s21 (gP G a 31) (by rw [(zr (k := 31) (t2 := 88) hG ha rfl)]; decide)]); have q2 : s25 (gP G a 32) = s7 (gP G a 32) := (by rw [hF_s25 (gP G a 32) (by rw [(zr (k := 32) (t2 := 89) hG ha rfl)]; decide), e_s23, zU_ne (zne (zr (k := 37) (t2 := 94) hG ha rfl) (zr (k := 32) (t2 := 89) hG ha rfl) (by decide)), hF_s22 (gP G a 32) (by rw [(zr (k := 32) (t2 := 89) hG ha rfl)]; decide), hF_s21 (gP G a 32) (by rw [(zr (k := 32) (t2 := 89) hG ha rfl)]; decide)]); rw [q1, q2]; exact (zNv_k q123.2.2.2.2.2.1 (by omega) (by omega))) (by omega)) (fun j hj => (za hS0 (zr (k := 37) (t2 := 94) hG ha rfl) (lo := 0) (hi := 150) rfl (by rw [zn hG (zr (k := 37) (t2 := 94) hG ha rfl) (n := 6) rfl]; exact hj)).2) (by omega)
                      refine j_aload_n hx 0 dX12_readPlan_198 rfl ?_
                      have g213 : zc (s25 (gP G a 27)) = zc (s0 (gP G a 27)) := by rw [hF_s25 (gP G a 27) (by rw [(zr (k := 27) (t2 := 84) hG ha rfl)]; decide), e_s23, zU_ne (zne (zr (k := 37) (t2 := 94) hG ha rfl) (zr (k := 27) (t2 := 84) hG ha rfl) (by decide)), hF_s22 (gP G a 27) (by rw [(zr (k := 27) (t2 := 84) hG ha rfl)]; decide), hF_s21 (gP G a 27) (by rw [(zr (k := 27) (t2 := 84) hG ha rfl)]; decide), hF_s7 (gP G a 27) (by rw [(zr (k := 27) (t2 := 84) hG ha rfl)]; decide), e_s6, zU_ne (zne ha (zr (k := 27) (t2 := 84) hG ha rfl) (by decide)), hF_s5 (gP G a 27) (by rw [(zr (k := 27) (t2 := 84) hG ha rfl)]; decide)]
                      have g214 : s25 (gP G a 27) 488 = s0 (gP G a 27) 488 := (by rw [(zFr_g hF_s25 (zr (k := 27) (t2 := 84) hG ha rfl) (by decide)), e_s23, zU_at (Or.inl (zne (zr (k := 37) (t2 := 94) hG ha rfl) (zr (k := 27) (t2 := 84) hG ha rfl) (by decide))), (zFr_g hF_s22 (zr (k := 27) (t2 := 84) hG ha rfl) (by decide)), (zFr_g hF_s21 (zr (k := 27) (t2 := 84) hG ha rfl) (by decide)), (zFr_g hF_s7 (zr (k := 27) (t2 := 84) hG ha rfl) (by decide)), e_s6, zU_at (Or.inl (zne ha (zr (k := 27) (t2 := 84) hG ha rfl) (by decide))), (zFr_g hF_s5 (zr (k := 27) (t2 := 84) hG ha rfl) (by decide))])
                      refine j_callV hx hG (c_X12_stays hst a) lk_RX12_207 ha (by decide) rfl rfl rfl rfl [] ⟨rfl, hG, hS_s25, ha⟩ rfl rfl ⟨by decide, by decide⟩ ⟨by decide, by decide⟩ (k2 := 0) (n2 := 0) rfl rfl (Nat.le_of_ble_eq_true rfl) dX12_readPlan_199 (kVM (fun s31 hS_s31 hF_s31 q216 => ?_))
                      refine j_iload hx 2 dX12_readPlan_202 rfl ?_
                      have g217 : s31 a 21 = s22 a 21 := (by rw [(zFr_g hF_s31 ha (by decide)), (zFr_g hF_s25 ha (by decide)), e_s23, zU_at (Or.inl (zne (zr (k := 37) (t2 := 94) hG ha rfl) ha (by decide)))])
                      have f218 := zf hS_s22 ha (k := 21) rfl
                      have g219 : s31 a 22 = s22 a 22 := (by rw [(zFr_g hF_s31 ha (by decide)), (zFr_g hF_s25 ha (by decide)), e_s23, zU_at (Or.inl (zne (zr (k := 37) (t2 := 94) hG ha rfl) ha (by decide)))])
                      have f220 := zf hS_s22 ha (k := 22) rfl
                      have g221 : s31 a 23 = s22 a 23 := (by rw [(zFr_g hF_s31 ha (by decide)), (zFr_g hF_s25 ha (by decide)), e_s23, zU_at (Or.inl (zne (zr (k := 37) (t2 := 94) hG ha rfl) ha (by decide)))])
                      have f222 := zf hS_s22 ha (k := 23) rfl
                      have g223 : s31 a 24 = s22 a 24 := (by rw [(zFr_g hF_s31 ha (by decide)), (zFr_g hF_s25 ha (by decide)), e_s23, zU_at (Or.inl (zne (zr (k := 37) (t2 := 94) hG ha rfl) ha (by decide)))])
                      have f224 := zf hS_s22 ha (k := 24) rfl
                      have g225 : s31 a 51 = s22 a 51 := (by rw [(zFr_g hF_s31 ha (by decide)), (zFr_g hF_s25 ha (by decide)), e_s23, zU_at (Or.inl (zne (zr (k := 37) (t2 := 94) hG ha rfl) ha (by decide)))])
                      have f226 := zf hS_s22 ha (k := 51) rfl
                      have g227 : s31 a 52 = s22 a 52 := (by rw [(zFr_g hF_s31 ha (by decide)), (zFr_g hF_s25 ha (by decide)), e_s23, zU_at (Or.inl (zne (zr (k := 37) (t2 := 94) hG ha rfl) ha (by decide)))])
                      have f228 := zf hS_s22 ha (k := 52) rfl
                      exact j_iret hx hq rfl (by decide) (by decide) dX12_readPlan_204 ⟨v202, rfl, rfl, hS_s31, (zFr_t (zFr_t (zFr_u (zFr_t (zFr_t (zFr_t (zFr_u (zFr_t zFr_rf hF_s5 (by decide)) e_s6 ha (by decide)) hF_s7 (by decide)) hF_s21 (by decide)) hF_s22 (by decide)) e_s23 (zr (k := 37) (t2 := 94) hG ha rfl) (by decide)) hF_s25 (by decide)) hF_s31 (by decide)), ⟨(by omega), (by have q1 : s31 (gP G a 34) = s25 (gP G a 34) := (by rw [hF_s31 (gP G a 34) (by rw [(zr (k := 34) (t2 := 91) hG ha rfl)]; decide)]); have q2 : s31 (gP G a 35) = s25 (gP G a 35) := (by rw [hF_s31 (gP G a 35) (by rw [(zr (k := 35) (t2 := 92) hG ha rfl)]; decide)]); have q3 : s31 (gP G a 37) = s25 (gP G a 37) := (by rw [hF_s31 (gP G a 37) (by rw [(zr (k := 37) (t2 := 94) hG ha rfl)]; decide)]); rw [q1, q2, q3]; exact hP212), by omega, by omega, by omega, by omega, by omega, by omega⟩⟩
                    · skip
                      refine j_aload_n hx 0 dX12_readPlan_132 rfl ?_
                      refine g13_34 hx hG ha kf_RX12_77 dX12_readPlan_133 ?_
                      refine j_sipush hx dX12_readPlan_136 rfl ?_
                      refine j_iload_n hx 1 dX12_readPlan_139 rfl ?_
                      refine j_imul hx (r := 150 * x3) dX12_readPlan_140 rfl ?_
                      refine j_iload hx 3 dX12_readPlan_141 rfl ?_
                      refine j_iadd hx (r := 150 * x3 + v210) dX12_readPlan_143 (by omega) ?_
                      refine j_aload_n hx 0 dX12_readPlan_144 rfl ?_
                      refine g13_31 hx hG ha kf_RX12_68 dX12_readPlan_145 ?_
                      refine j_iload hx 3 dX12_readPlan_148 rfl ?_
                      have f229 := zaI (j := (v210).toNat) hS_s7 (zr (k := 31) (t2 := 88) hG ha rfl) rfl (zlen hG (zr (k := 31) (t2 := 88) hG ha rfl) (n := 150) rfl rfl) (show 0 ≤ v210 by omega) (by omega) rfl
                      refine j_iald hx hG (zr (k := 31) (t2 := 88) hG ha rfl) (by decide) rfl (zlen hG (zr (k := 31) (t2 := 88) hG ha rfl) (n := 150) rfl rfl) (by omega) (by omega) (j := (v210).toNat) rfl (v := (s7 (gP G a 31) (v210).toNat)) (by rw [(zFr_g hF_s25 (zr (k := 31) (t2 := 88) hG ha rfl) (by decide)), e_s23, zU_at (Or.inl (zne (zr (k := 37) (t2 := 94) hG ha rfl) (zr (k := 31) (t2 := 88) hG ha rfl) (by decide))), (zFr_g hF_s22 (zr (k := 31) (t2 := 88) hG ha rfl) (by decide)), (zFr_g hF_s21 (zr (k := 31) (t2 := 88) hG ha rfl) (by decide))]) dX12_readPlan_150 ?_
                      refine j_iast hx hG (zr (k := 34) (t2 := 91) hG ha rfl) (by decide) rfl (zlen hG (zr (k := 34) (t2 := 91) hG ha rfl) (n := 900) rfl rfl) (by omega) (by omega) (j := (150 * x3 + v210).toNat) rfl dX12_readPlan_151 ?_
                      obtain ⟨s32, e_s32⟩ : ∃ z, z = zU s25 (gP G a 34) (150 * x3 + v210).toNat ((s7 (gP G a 31) (v210).toNat)) := ⟨_, rfl⟩
                      rw [← e_s32]
                      have hS_s32 : zSK G s32 := by rw [e_s32]; exact zSK_A hS_s25 (zr (k := 34) (t2 := 91) hG ha rfl) rfl rfl rfl (by omega)
                      have hP230 : zPt (s32 (gP G a 34)) (s0 (gP G a 34)) (s32 (gP G a 31)) (150 * x3) (v210 + 1) := zPt_s (zPt_nn fA29 (by omega) (by omega)) e_s32 (by omega) (by omega) (by omega) rfl
                      refine j_aload_n hx 0 dX12_readPlan_152 rfl ?_
                      refine g13_35 hx hG ha kf_RX12_80 dX12_readPlan_153 ?_
                      refine j_sipush hx dX12_readPlan_156 rfl ?_
                      refine j_iload_n hx 1 dX12_readPlan_159 rfl ?_
                      refine j_imul hx (r := 150 * x3) dX12_readPlan_160 rfl ?_
                      refine j_iload hx 3 dX12_readPlan_161 rfl ?_
                      refine j_iadd hx (r := 150 * x3 + v210) dX12_readPlan_163 (by omega) ?_
                      refine j_aload_n hx 0 dX12_readPlan_164 rfl ?_
                      refine g13_32 hx hG ha kf_RX12_71 dX12_readPlan_165 ?_
                      refine j_iload hx 3 dX12_readPlan_168 rfl ?_
                      have f231 := zaI (j := (v210).toNat) hS_s7 (zr (k := 32) (t2 := 89) hG ha rfl) rfl (zlen hG (zr (k := 32) (t2 := 89) hG ha rfl) (n := 150) rfl rfl) (show 0 ≤ v210 by omega) (by omega) rfl
                      refine j_iald hx hG (zr (k := 32) (t2 := 89) hG ha rfl) (by decide) rfl (zlen hG (zr (k := 32) (t2 := 89) hG ha rfl) (n := 150) rfl rfl) (by omega) (by omega) (j := (v210).toNat) rfl (v := (s7 (gP G a 32) (v210).toNat)) (by rw [e_s32, zU_at (Or.inl (zne (zr (k := 34) (t2 := 91) hG ha rfl) (zr (k := 32) (t2 := 89) hG ha rfl) (by decide))), (zFr_g hF_s25 (zr (k := 32) (t2 := 89) hG ha rfl) (by decide)), e_s23, zU_at (Or.inl (zne (zr (k := 37) (t2 := 94) hG ha rfl) (zr (k := 32) (t2 := 89) hG ha rfl) (by decide))), (zFr_g hF_s22 (zr (k := 32) (t2 := 89) hG ha rfl) (by decide)), (zFr_g hF_s21 (zr (k := 32) (t2 := 89) hG ha rfl) (by decide))]) dX12_readPlan_170 ?_
                      refine j_iast hx hG (zr (k := 35) (t2 := 92) hG ha rfl) (by decide) rfl (zlen hG (zr (k := 35) (t2 := 92) hG ha rfl) (n := 900) rfl rfl) (by omega) (by omega) (j := (150 * x3 + v210).toNat) rfl dX12_readPlan_171 ?_
                      obtain ⟨s33, e_s33⟩ : ∃ z, z = zU s32 (gP G a 35) (150 * x3 + v210).toNat ((s7 (gP G a 32) (v210).toNat)) := ⟨_, rfl⟩
                      rw [← e_s33]
                      have hS_s33 : zSK G s33 := by rw [e_s33]; exact zSK_A hS_s32 (zr (k := 35) (t2 := 92) hG ha rfl) rfl rfl rfl (by omega)
                      have hP232 : zPt (s33 (gP G a 35)) (s0 (gP G a 35)) (s33 (gP G a 32)) (150 * x3) (v210 + 1) := zPt_s (by have q1 : s32 (gP G a 35) = s25 (gP G a 35) := (by rw [e_s32, zU_ne (zne (zr (k := 34) (t2 := 91) hG ha rfl) (zr (k := 35) (t2 := 92) hG ha rfl) (by decide))]); have q2 : s32 (gP G a 32) = s25 (gP G a 32) := (by rw [e_s32, zU_ne (zne (zr (k := 34) (t2 := 91) hG ha rfl) (zr (k := 32) (t2 := 89) hG ha rfl) (by decide))]); rw [q1, q2]; exact (zPt_nn fA30 (by omega) (by omega))) e_s33 (by omega) (by omega) (by omega) rfl
                      refine j_aload_n hx 0 dX12_readPlan_172 rfl ?_
                      refine g13_36 hx hG ha kf_RX12_83 dX12_readPlan_173 ?_
                      refine j_sipush hx dX12_readPlan_176 rfl ?_
                      refine j_iload_n hx 1 dX12_readPlan_179 rfl ?_
                      refine j_imul hx (r := 150 * x3) dX12_readPlan_180 rfl ?_
                      refine j_iload hx 3 dX12_readPlan_181 rfl ?_
                      refine j_iadd hx (r := 150 * x3 + v210) dX12_readPlan_183 (by omega) ?_
                      refine j_aload_n hx 0 dX12_readPlan_184 rfl ?_
                      refine g13_33 hx hG ha kf_RX12_74 dX12_readPlan_185 ?_
                      refine j_iload hx 3 dX12_readPlan_188 rfl ?_
                      have f233 := zaI (j := (v210).toNat) hS_s7 (zr (k := 33) (t2 := 90) hG ha rfl) rfl (zlen hG (zr (k := 33) (t2 := 90) hG ha rfl) (n := 150) rfl rfl) (show 0 ≤ v210 by omega) (by omega) rfl
                      refine j_iald hx hG (zr (k := 33) (t2 := 90) hG ha rfl) (by decide) rfl (zlen hG (zr (k := 33) (t2 := 90) hG ha rfl) (n := 150) rfl rfl) (by omega) (by omega) (j := (v210).toNat) rfl (v := (s7 (gP G a 33) (v210).toNat)) (by rw [e_s33, zU_at (Or.inl (zne (zr (k := 35) (t2 := 92) hG ha rfl) (zr (k := 33) (t2 := 90) hG ha rfl) (by decide))), e_s32, zU_at (Or.inl (zne (zr (k := 34) (t2 := 91) hG ha rfl) (zr (k := 33) (t2 := 90) hG ha rfl) (by decide))), (zFr_g hF_s25 (zr (k := 33) (t2 := 90) hG ha rfl) (by decide)), e_s23, zU_at (Or.inl (zne (zr (k := 37) (t2 := 94) hG ha rfl) (zr (k := 33) (t2 := 90) hG ha rfl) (by decide))), (zFr_g hF_s22 (zr (k := 33) (t2 := 90) hG ha rfl) (by decide)), (zFr_g hF_s21 (zr (k := 33) (t2 := 90) hG ha rfl) (by decide))]) dX12_readPlan_190 ?_
                      refine j_iast hx hG (zr (k := 36) (t2 := 93) hG ha rfl) (by decide) rfl (zlen hG (zr (k := 36) (t2 := 93) hG ha rfl) (n := 900) rfl rfl) (by omega) (by omega) (j := (150 * x3 + v210).toNat) rfl dX12_readPlan_191 ?_
                      obtain ⟨s34, e_s34⟩ : ∃ z, z = zU s33 (gP G a 36) (150 * x3 + v210).toNat ((s7 (gP G a 33) (v210).toNat)) := ⟨_, rfl⟩
                      rw [← e_s34]
                      have hS_s34 : zSK G s34 := by rw [e_s34]; exact zSK_A hS_s33 (zr (k := 36) (t2 := 93) hG ha rfl) rfl rfl rfl (by omega)
                      refine j_iinc hx 3 [(5, .int (zI (v210 + 1))), (0, .ref a), (3, .int (zI x3)), (4, .int (zI v202))] dX12_readPlan_192 rfl (by omega) (by decide) rfl ?_
                      refine j_goto hx 123 dX12_readPlan_195 rfl ?_
                      exact j_sub [1, 2, 3, 0] [(0, .ref a), (3, .int (zI x3)), (4, .int (zI v202)), (5, .int (zI (v210 + 1)))] rfl (ih_c123_24 (v210 + 1) s34 (by omega) (by omega) hS_s34 (zFr_u (zFr_u (zFr_u (zFr_t zFr_rf hF_s25 (by decide)) e_s32 (zr (k := 34) (t2 := 91) hG ha rfl) (by decide)) e_s33 (zr (k := 35) (t2 := 92) hG ha rfl) (by decide)) e_s34 (zr (k := 36) (t2 := 93) hG ha rfl) (by decide)) (by have q1 : s34 (gP G a 34) = s32 (gP G a 34) := (by rw [e_s34, zU_ne (zne (zr (k := 36) (t2 := 93) hG ha rfl) (zr (k := 34) (t2 := 91) hG ha rfl) (by decide)), e_s33, zU_ne (zne (zr (k := 35) (t2 := 92) hG ha rfl) (zr (k := 34) (t2 := 91) hG ha rfl) (by decide))]); have q2 : s34 (gP G a 31) = s32 (gP G a 31) := (by rw [e_s34, zU_ne (zne (zr (k := 36) (t2 := 93) hG ha rfl) (zr (k := 31) (t2 := 88) hG ha rfl) (by decide)), e_s33, zU_ne (zne (zr (k := 35) (t2 := 92) hG ha rfl) (zr (k := 31) (t2 := 88) hG ha rfl) (by decide))]); rw [q1, q2]; exact (zPt_nn hP230 (by omega) (by omega))) (by have q1 : s34 (gP G a 35) = s33 (gP G a 35) := (by rw [e_s34, zU_ne (zne (zr (k := 36) (t2 := 93) hG ha rfl) (zr (k := 35) (t2 := 92) hG ha rfl) (by decide))]); have q2 : s34 (gP G a 32) = s33 (gP G a 32) := (by rw [e_s34, zU_ne (zne (zr (k := 36) (t2 := 93) hG ha rfl) (zr (k := 32) (t2 := 89) hG ha rfl) (by decide))]); rw [q1, q2]; exact (zPt_nn hP232 (by omega) (by omega))))
                exact j_sub [2, 5, 1, 0] [(0, .ref a), (3, .int (zI x3)), (4, .int (zI v202)), (5, .int (zI 0))] rfl (c123_24 (2147483648 * 4) 0 s23 (by omega) (by omega) hS_s23 zFr_rf (zPt_nn hP208 (by omega) (by omega)) (zPt_nn hP209 (by omega) (by omega)))
              · skip
                refine j_iload hx 0 dX12_readPlan_107 rfl ?_
                have f234 := zf hS_s22 ha (k := 21) rfl
                have f235 := zf hS_s22 ha (k := 22) rfl
                have f236 := zf hS_s22 ha (k := 23) rfl
                have f237 := zf hS_s22 ha (k := 24) rfl
                have f238 := zf hS_s22 ha (k := 51) rfl
                have f239 := zf hS_s22 ha (k := 52) rfl
                exact j_iret hx hq rfl (by decide) (by decide) dX12_readPlan_109 ⟨v202, rfl, rfl, hS_s22, (zFr_t (zFr_t (zFr_t (zFr_u (zFr_t zFr_rf hF_s5 (by decide)) e_s6 ha (by decide)) hF_s7 (by decide)) hF_s21 (by decide)) hF_s22 (by decide)), ⟨(by omega), (by have q1 : s22 (gP G a 34) = s0 (gP G a 34) := (by rw [hF_s22 (gP G a 34) (by rw [(zr (k := 34) (t2 := 91) hG ha rfl)]; decide), hF_s21 (gP G a 34) (by rw [(zr (k := 34) (t2 := 91) hG ha rfl)]; decide), hF_s7 (gP G a 34) (by rw [(zr (k := 34) (t2 := 91) hG ha rfl)]; decide), e_s6, zU_ne (zne ha (zr (k := 34) (t2 := 91) hG ha rfl) (by decide)), hF_s5 (gP G a 34) (by rw [(zr (k := 34) (t2 := 91) hG ha rfl)]; decide)]); have q2 : s22 (gP G a 35) = s0 (gP G a 35) := (by rw [hF_s22 (gP G a 35) (by rw [(zr (k := 35) (t2 := 92) hG ha rfl)]; decide), hF_s21 (gP G a 35) (by rw [(zr (k := 35) (t2 := 92) hG ha rfl)]; decide), hF_s7 (gP G a 35) (by rw [(zr (k := 35) (t2 := 92) hG ha rfl)]; decide), e_s6, zU_ne (zne ha (zr (k := 35) (t2 := 92) hG ha rfl) (by decide)), hF_s5 (gP G a 35) (by rw [(zr (k := 35) (t2 := 92) hG ha rfl)]; decide)]); have q3 : s22 (gP G a 37) = s0 (gP G a 37) := (by rw [hF_s22 (gP G a 37) (by rw [(zr (k := 37) (t2 := 94) hG ha rfl)]; decide), hF_s21 (gP G a 37) (by rw [(zr (k := 37) (t2 := 94) hG ha rfl)]; decide), hF_s7 (gP G a 37) (by rw [(zr (k := 37) (t2 := 94) hG ha rfl)]; decide), e_s6, zU_ne (zne ha (zr (k := 37) (t2 := 94) hG ha rfl) (by decide)), hF_s5 (gP G a 37) (by rw [(zr (k := 37) (t2 := 94) hG ha rfl)]; decide)]); rw [q1, q2, q3]; exact e1), by omega, by omega, by omega, by omega, by omega, by omega⟩⟩
            · skip
              refine j_aload_n hx 0 dX12_readPlan_83 rfl ?_
              refine j_iconst hx dX12_readPlan_84 ?_
              refine j_aload_n hx 0 dX12_readPlan_85 rfl ?_
              have f240 := zf hS_s21 ha (k := 4) rfl
              refine g13_4 hx hG ha kf_RX12_143 rfl dX12_readPlan_86 ?_
              have f241 := zf hS_s21 ha (k := 5) rfl
              have f242 := zf hS_s21 ha (k := 0) rfl
              have f243 := zf hS_s21 ha (k := 3) rfl
              have f244 := zf hS_s21 ha (k := 7) rfl
              have f245 := zf hS_s21 ha (k := 21) rfl
              have f246 := zf hS_s21 ha (k := 22) rfl
              have f247 := zf hS_s21 ha (k := 23) rfl
              have f248 := zf hS_s21 ha (k := 24) rfl
              have f249 := zf hS_s21 ha (k := 38) rfl
              have f250 := zf hS_s21 ha (k := 51) rfl
              have f251 := zf hS_s21 ha (k := 52) rfl
              refine j_callV hx hG (c_X12_wrong hst a 1 ((s21 a 4))) lk_RX12_173 ha (by decide) rfl rfl rfl rfl [.int (zI 1), .int (zI ((s21 a 4)))] ⟨rfl, hG, hS_s21, ha, (by omega), (by omega)⟩ rfl rfl ⟨by decide, by decide⟩ ⟨by decide, by decide⟩ (k2 := 0) (n2 := 0) rfl rfl (Nat.le_of_ble_eq_true rfl) dX12_readPlan_89 (kVM (fun s35 hS_s35 hF_s35 q253 => ?_))
              refine j_aload_n hx 0 dX12_readPlan_92 rfl ?_
              refine j_iconst hx dX12_readPlan_93 ?_
              have f254 := zf hS_s35 ha (k := 0) rfl
              have f255 := zf hS_s35 ha (k := 3) rfl
              have f256 := zf hS_s35 ha (k := 4) rfl
              have f257 := zf hS_s35 ha (k := 5) rfl
              have f258 := zf hS_s35 ha (k := 7) rfl
              have f259 := zf hS_s35 ha (k := 21) rfl
              have f260 := zf hS_s35 ha (k := 22) rfl
              have f261 := zf hS_s35 ha (k := 23) rfl
              have f262 := zf hS_s35 ha (k := 24) rfl
              have f263 := zf hS_s35 ha (k := 38) rfl
              have f264 := zf hS_s35 ha (k := 51) rfl
              have f265 := zf hS_s35 ha (k := 52) rfl
              refine j_callV hx hG (c_X12_result hst a 1) lk_RX12_265 ha (by decide) rfl rfl rfl rfl [.int (zI 1)] ⟨rfl, hG, hS_s35, ha, (by omega)⟩ rfl rfl ⟨by decide, by decide⟩ ⟨by decide, by decide⟩ (k2 := 0) (n2 := 0) rfl rfl (Nat.le_of_ble_eq_true rfl) dX12_readPlan_94 (kIM (fun v266 s36 hS_s36 hF_s36 q267 => ?_))
              refine j_istore hx [(4, .int (zI v266)), (0, .ref a), (1, .int (zI x1)), (2, .int (zI x2)), (3, .int (zI x3))] dX12_readPlan_97 (by decide) rfl ?_
              refine j_aload_n hx 1 dX12_readPlan_99 rfl ?_
              have f268 := zf hS_s36 ha (k := 5) rfl
              refine g13_5 hx hG ha kf_RX12_137 rfl dX12_readPlan_100 ?_
              refine j_iconst hx dX12_readPlan_103 ?_
              refine j_icmp_eq hx 110 dX12_readPlan_104 rfl (by omega) ⟨by decide, by decide⟩ (fun h269 => ?_) (fun h269 => ?_)
              · skip
                refine j_aload_n hx 1 dX12_readPlan_110 rfl ?_
                refine g13_37 hx hG ha kf_RX12_86 dX12_readPlan_111 ?_
                refine j_iload_n hx 4 dX12_readPlan_114 rfl ?_
                refine j_aload_n hx 1 dX12_readPlan_115 rfl ?_
                have f270 := zf hS_s36 ha (k := 38) rfl
                refine g13_38 hx hG ha kf_RX12_269 rfl dX12_readPlan_116 ?_
                refine j_iast hx hG (zr (k := 37) (t2 := 94) hG ha rfl) (by decide) rfl (zlen hG (zr (k := 37) (t2 := 94) hG ha rfl) (n := 6) rfl rfl) (by omega) (by omega) (j := (x3).toNat) rfl dX12_readPlan_119 ?_
                obtain ⟨s37, e_s37⟩ : ∃ z, z = zU s36 (gP G a 37) (x3).toNat ((s36 a 38)) := ⟨_, rfl⟩
                rw [← e_s37]
                have hS_s37 : zSK G s37 := by rw [e_s37]; exact zSK_A hS_s36 (zr (k := 37) (t2 := 94) hG ha rfl) rfl rfl rfl (by omega)
                have hP271 : zUc (s37 (gP G a 37)) (s0 (gP G a 37)) x3 (s37 a 38) := zUc_of e_s37 (by rw [hF_s36 (gP G a 37) (by rw [(zr (k := 37) (t2 := 94) hG ha rfl)]; decide), hF_s35 (gP G a 37) (by rw [(zr (k := 37) (t2 := 94) hG ha rfl)]; decide), hF_s21 (gP G a 37) (by rw [(zr (k := 37) (t2 := 94) hG ha rfl)]; decide), hF_s7 (gP G a 37) (by rw [(zr (k := 37) (t2 := 94) hG ha rfl)]; decide), e_s6, zU_ne (zne ha (zr (k := 37) (t2 := 94) hG ha rfl) (by decide)), hF_s5 (gP G a 37) (by rw [(zr (k := 37) (t2 := 94) hG ha rfl)]; decide)])
                have hP272 : zPt (s37 (gP G a 34)) (s0 (gP G a 34)) (s37 (gP G a 31)) (150 * x3) 0 := zPt_0 (by rw [e_s37, zU_ne (zne (zr (k := 37) (t2 := 94) hG ha rfl) (zr (k := 34) (t2 := 91) hG ha rfl) (by decide)), hF_s36 (gP G a 34) (by rw [(zr (k := 34) (t2 := 91) hG ha rfl)]; decide), hF_s35 (gP G a 34) (by rw [(zr (k := 34) (t2 := 91) hG ha rfl)]; decide), hF_s21 (gP G a 34) (by rw [(zr (k := 34) (t2 := 91) hG ha rfl)]; decide), hF_s7 (gP G a 34) (by rw [(zr (k := 34) (t2 := 91) hG ha rfl)]; decide), e_s6, zU_ne (zne ha (zr (k := 34) (t2 := 91) hG ha rfl) (by decide)), hF_s5 (gP G a 34) (by rw [(zr (k := 34) (t2 := 91) hG ha rfl)]; decide)]) (by omega)
                have hP273 : zPt (s37 (gP G a 35)) (s0 (gP G a 35)) (s37 (gP G a 32)) (150 * x3) 0 := zPt_0 (by rw [e_s37, zU_ne (zne (zr (k := 37) (t2 := 94) hG ha rfl) (zr (k := 35) (t2 := 92) hG ha rfl) (by decide)), hF_s36 (gP G a 35) (by rw [(zr (k := 35) (t2 := 92) hG ha rfl)]; decide), hF_s35 (gP G a 35) (by rw [(zr (k := 35) (t2 := 92) hG ha rfl)]; decide), hF_s21 (gP G a 35) (by rw [(zr (k := 35) (t2 := 92) hG ha rfl)]; decide), hF_s7 (gP G a 35) (by rw [(zr (k := 35) (t2 := 92) hG ha rfl)]; decide), e_s6, zU_ne (zne ha (zr (k := 35) (t2 := 92) hG ha rfl) (by decide)), hF_s5 (gP G a 35) (by rw [(zr (k := 35) (t2 := 92) hG ha rfl)]; decide)]) (by omega)
                refine j_iconst hx dX12_readPlan_120 ?_
                refine j_istore hx [(5, .int (zI 0)), (4, .int (zI v266)), (0, .ref a), (1, .int (zI x1)), (2, .int (zI x2)), (3, .int (zI x3))] dX12_readPlan_121 (by decide) rfl ?_
                have c123_38 : ∀ (m_c123_38 : Nat) (v274 : Int) (s39 : zS), 2147483648 - v274 < m_c123_38 → (0 ≤ v274 ∧ v274 ≤ 150) → (zSK G s39) → (zFr [91, 92, 93] G s37 s39) → (zPt (s39 (gP G a 34)) (s0 (gP G a 34)) (s39 (gP G a 31)) (150 * x3) (v274)) → (zPt (s39 (gP G a 35)) (s0 (gP G a 35)) (s39 (gP G a 32)) (150 * x3) (v274)) → JJ X E 6 G s39 0 0 [(0, .ref a), (3, .int (zI x3)), (4, .int (zI v266)), (5, .int (zI v274))] 123 [] := by
                  intro m_c123_38
                  induction m_c123_38 with
                  | zero => intro v274 s39 hm_c123_38 fA40 hS_s39 hF_s39 fA43 fA44; exfalso; omega
                  | succ m_c123_38 ih_c123_38 => 
                    intro v274 s39 hm_c123_38 fA40 hS_s39 hF_s39 fA43 fA44
                    refine j_iload hx 3 dX12_readPlan_123 rfl ?_
                    refine j_aload_n hx 0 dX12_readPlan_125 rfl ?_
                    refine g13_38 hx hG ha kf_RX12_269 (v := (s36 a 38)) (by rw [(zFr_g hF_s39 ha (by decide)), e_s37, zU_at (Or.inl (zne (zr (k := 37) (t2 := 94) hG ha rfl) ha (by decide)))]) dX12_readPlan_126 ?_
                    refine j_icmp_ge hx 198 dX12_readPlan_129 rfl (by omega) (by omega) (fun h275 => ?_) (fun h275 => ?_)
                    · skip
                      have hP276 : zRva (s39 (gP G a 34)) (s39 (gP G a 35)) (s39 (gP G a 37)) := zRva_in e1 (zPt_nn fA43 (by omega) (by omega)) (zPt_nn fA44 (by omega) (by omega)) (by have q1 : s39 (gP G a 37) = s37 (gP G a 37) := (by rw [hF_s39 (gP G a 37) (by rw [(zr (k := 37) (t2 := 94) hG ha rfl)]; decide)]); rw [q1]; exact (zUc_nn hP271 (by omega) (by omega))) ((by have q1 : s39 (gP G a 31) = s7 (gP G a 31) := (by rw [hF_s39 (gP G a 31) (by rw [(zr (k := 31) (t2 := 88) hG ha rfl)]; decide), e_s37, zU_ne (zne (zr (k := 37) (t2 := 94) hG ha rfl) (zr (k := 31) (t2 := 88) hG ha rfl) (by decide)), hF_s36 (gP G a 31) (by rw [(zr (k := 31) (t2 := 88) hG ha rfl)]; decide), hF_s35 (gP G a 31) (by rw [(zr (k := 31) (t2 := 88) hG ha rfl)]; decide), hF_s21 (gP G a 31) (by rw [(zr (k := 31) (t2 := 88) hG ha rfl)]; decide)]); have q2 : s39 (gP G a 32) = s7 (gP G a 32) := (by rw [hF_s39 (gP G a 32) (by rw [(zr (k := 32) (t2 := 89) hG ha rfl)]; decide), e_s37, zU_ne (zne (zr (k := 37) (t2 := 94) hG ha rfl) (zr (k := 32) (t2 := 89) hG ha rfl) (by decide)), hF_s36 (gP G a 32) (by rw [(zr (k := 32) (t2 := 89) hG ha rfl)]; decide), hF_s35 (gP G a 32) (by rw [(zr (k := 32) (t2 := 89) hG ha rfl)]; decide), hF_s21 (gP G a 32) (by rw [(zr (k := 32) (t2 := 89) hG ha rfl)]; decide)]); rw [q1, q2]; exact (zNv_k q123.2.2.2.2.2.1 (by omega) (by omega))) (by omega)) (fun j hj => (za hS0 (zr (k := 37) (t2 := 94) hG ha rfl) (lo := 0) (hi := 150) rfl (by rw [zn hG (zr (k := 37) (t2 := 94) hG ha rfl) (n := 6) rfl]; exact hj)).2) (by omega)
                      refine j_aload_n hx 0 dX12_readPlan_198 rfl ?_
                      have g277 : zc (s39 (gP G a 27)) = zc (s0 (gP G a 27)) := by rw [hF_s39 (gP G a 27) (by rw [(zr (k := 27) (t2 := 84) hG ha rfl)]; decide), e_s37, zU_ne (zne (zr (k := 37) (t2 := 94) hG ha rfl) (zr (k := 27) (t2 := 84) hG ha rfl) (by decide)), hF_s36 (gP G a 27) (by rw [(zr (k := 27) (t2 := 84) hG ha rfl)]; decide), hF_s35 (gP G a 27) (by rw [(zr (k := 27) (t2 := 84) hG ha rfl)]; decide), hF_s21 (gP G a 27) (by rw [(zr (k := 27) (t2 := 84) hG ha rfl)]; decide), hF_s7 (gP G a 27) (by rw [(zr (k := 27) (t2 := 84) hG ha rfl)]; decide), e_s6, zU_ne (zne ha (zr (k := 27) (t2 := 84) hG ha rfl) (by decide)), hF_s5 (gP G a 27) (by rw [(zr (k := 27) (t2 := 84) hG ha rfl)]; decide)]
                      have g278 : s39 (gP G a 27) 488 = s0 (gP G a 27) 488 := (by rw [(zFr_g hF_s39 (zr (k := 27) (t2 := 84) hG ha rfl) (by decide)), e_s37, zU_at (Or.inl (zne (zr (k := 37) (t2 := 94) hG ha rfl) (zr (k := 27) (t2 := 84) hG ha rfl) (by decide))), (zFr_g hF_s36 (zr (k := 27) (t2 := 84) hG ha rfl) (by decide)), (zFr_g hF_s35 (zr (k := 27) (t2 := 84) hG ha rfl) (by decide)), (zFr_g hF_s21 (zr (k := 27) (t2 := 84) hG ha rfl) (by decide)), (zFr_g hF_s7 (zr (k := 27) (t2 := 84) hG ha rfl) (by decide)), e_s6, zU_at (Or.inl (zne ha (zr (k := 27) (t2 := 84) hG ha rfl) (by decide))), (zFr_g hF_s5 (zr (k := 27) (t2 := 84) hG ha rfl) (by decide))])
                      refine j_callV hx hG (c_X12_stays hst a) lk_RX12_207 ha (by decide) rfl rfl rfl rfl [] ⟨rfl, hG, hS_s39, ha⟩ rfl rfl ⟨by decide, by decide⟩ ⟨by decide, by decide⟩ (k2 := 0) (n2 := 0) rfl rfl (Nat.le_of_ble_eq_true rfl) dX12_readPlan_199 (kVM (fun s45 hS_s45 hF_s45 q280 => ?_))
                      refine j_iload hx 2 dX12_readPlan_202 rfl ?_
                      have g281 : s45 a 21 = s36 a 21 := (by rw [(zFr_g hF_s45 ha (by decide)), (zFr_g hF_s39 ha (by decide)), e_s37, zU_at (Or.inl (zne (zr (k := 37) (t2 := 94) hG ha rfl) ha (by decide)))])
                      have f282 := zf hS_s36 ha (k := 21) rfl
                      have g283 : s45 a 22 = s36 a 22 := (by rw [(zFr_g hF_s45 ha (by decide)), (zFr_g hF_s39 ha (by decide)), e_s37, zU_at (Or.inl (zne (zr (k := 37) (t2 := 94) hG ha rfl) ha (by decide)))])
                      have f284 := zf hS_s36 ha (k := 22) rfl
                      have g285 : s45 a 23 = s36 a 23 := (by rw [(zFr_g hF_s45 ha (by decide)), (zFr_g hF_s39 ha (by decide)), e_s37, zU_at (Or.inl (zne (zr (k := 37) (t2 := 94) hG ha rfl) ha (by decide)))])
                      have f286 := zf hS_s36 ha (k := 23) rfl
                      have g287 : s45 a 24 = s36 a 24 := (by rw [(zFr_g hF_s45 ha (by decide)), (zFr_g hF_s39 ha (by decide)), e_s37, zU_at (Or.inl (zne (zr (k := 37) (t2 := 94) hG ha rfl) ha (by decide)))])
                      have f288 := zf hS_s36 ha (k := 24) rfl
                      have g289 : s45 a 51 = s36 a 51 := (by rw [(zFr_g hF_s45 ha (by decide)), (zFr_g hF_s39 ha (by decide)), e_s37, zU_at (Or.inl (zne (zr (k := 37) (t2 := 94) hG ha rfl) ha (by decide)))])
                      have f290 := zf hS_s36 ha (k := 51) rfl
                      have g291 : s45 a 52 = s36 a 52 := (by rw [(zFr_g hF_s45 ha (by decide)), (zFr_g hF_s39 ha (by decide)), e_s37, zU_at (Or.inl (zne (zr (k := 37) (t2 := 94) hG ha rfl) ha (by decide)))])
                      have f292 := zf hS_s36 ha (k := 52) rfl
                      exact j_iret hx hq rfl (by decide) (by decide) dX12_readPlan_204 ⟨v266, rfl, rfl, hS_s45, (zFr_t (zFr_t (zFr_u (zFr_t (zFr_t (zFr_t (zFr_t (zFr_u (zFr_t zFr_rf hF_s5 (by decide)) e_s6 ha (by decide)) hF_s7 (by decide)) hF_s21 (by decide)) hF_s35 (by decide)) hF_s36 (by decide)) e_s37 (zr (k := 37) (t2 := 94) hG ha rfl) (by decide)) hF_s39 (by decide)) hF_s45 (by decide)), ⟨(by omega), (by have q1 : s45 (gP G a 34) = s39 (gP G a 34) := (by rw [hF_s45 (gP G a 34) (by rw [(zr (k := 34) (t2 := 91) hG ha rfl)]; decide)]); have q2 : s45 (gP G a 35) = s39 (gP G a 35) := (by rw [hF_s45 (gP G a 35) (by rw [(zr (k := 35) (t2 := 92) hG ha rfl)]; decide)]); have q3 : s45 (gP G a 37) = s39 (gP G a 37) := (by rw [hF_s45 (gP G a 37) (by rw [(zr (k := 37) (t2 := 94) hG ha rfl)]; decide)]); rw [q1, q2, q3]; exact hP276), by omega, by omega, by omega, by omega, by omega, by omega⟩⟩
                    · skip
                      refine j_aload_n hx 0 dX12_readPlan_132 rfl ?_
                      refine g13_34 hx hG ha kf_RX12_77 dX12_readPlan_133 ?_
                      refine j_sipush hx dX12_readPlan_136 rfl ?_
                      refine j_iload_n hx 1 dX12_readPlan_139 rfl ?_
                      refine j_imul hx (r := 150 * x3) dX12_readPlan_140 rfl ?_
                      refine j_iload hx 3 dX12_readPlan_141 rfl ?_
                      refine j_iadd hx (r := 150 * x3 + v274) dX12_readPlan_143 (by omega) ?_
                      refine j_aload_n hx 0 dX12_readPlan_144 rfl ?_
                      refine g13_31 hx hG ha kf_RX12_68 dX12_readPlan_145 ?_
                      refine j_iload hx 3 dX12_readPlan_148 rfl ?_
                      have f293 := zaI (j := (v274).toNat) hS_s7 (zr (k := 31) (t2 := 88) hG ha rfl) rfl (zlen hG (zr (k := 31) (t2 := 88) hG ha rfl) (n := 150) rfl rfl) (show 0 ≤ v274 by omega) (by omega) rfl
                      refine j_iald hx hG (zr (k := 31) (t2 := 88) hG ha rfl) (by decide) rfl (zlen hG (zr (k := 31) (t2 := 88) hG ha rfl) (n := 150) rfl rfl) (by omega) (by omega) (j := (v274).toNat) rfl (v := (s7 (gP G a 31) (v274).toNat)) (by rw [(zFr_g hF_s39 (zr (k := 31) (t2 := 88) hG ha rfl) (by decide)), e_s37, zU_at (Or.inl (zne (zr (k := 37) (t2 := 94) hG ha rfl) (zr (k := 31) (t2 := 88) hG ha rfl) (by decide))), (zFr_g hF_s36 (zr (k := 31) (t2 := 88) hG ha rfl) (by decide)), (zFr_g hF_s35 (zr (k := 31) (t2 := 88) hG ha rfl) (by decide)), (zFr_g hF_s21 (zr (k := 31) (t2 := 88) hG ha rfl) (by decide))]) dX12_readPlan_150 ?_
                      refine j_iast hx hG (zr (k := 34) (t2 := 91) hG ha rfl) (by decide) rfl (zlen hG (zr (k := 34) (t2 := 91) hG ha rfl) (n := 900) rfl rfl) (by omega) (by omega) (j := (150 * x3 + v274).toNat) rfl dX12_readPlan_151 ?_
                      obtain ⟨s46, e_s46⟩ : ∃ z, z = zU s39 (gP G a 34) (150 * x3 + v274).toNat ((s7 (gP G a 31) (v274).toNat)) := ⟨_, rfl⟩
                      rw [← e_s46]
                      have hS_s46 : zSK G s46 := by rw [e_s46]; exact zSK_A hS_s39 (zr (k := 34) (t2 := 91) hG ha rfl) rfl rfl rfl (by omega)
                      have hP294 : zPt (s46 (gP G a 34)) (s0 (gP G a 34)) (s46 (gP G a 31)) (150 * x3) (v274 + 1) := zPt_s (zPt_nn fA43 (by omega) (by omega)) e_s46 (by omega) (by omega) (by omega) rfl
                      refine j_aload_n hx 0 dX12_readPlan_152 rfl ?_
                      refine g13_35 hx hG ha kf_RX12_80 dX12_readPlan_153 ?_
                      refine j_sipush hx dX12_readPlan_156 rfl ?_
                      refine j_iload_n hx 1 dX12_readPlan_159 rfl ?_
                      refine j_imul hx (r := 150 * x3) dX12_readPlan_160 rfl ?_
                      refine j_iload hx 3 dX12_readPlan_161 rfl ?_
                      refine j_iadd hx (r := 150 * x3 + v274) dX12_readPlan_163 (by omega) ?_
                      refine j_aload_n hx 0 dX12_readPlan_164 rfl ?_
                      refine g13_32 hx hG ha kf_RX12_71 dX12_readPlan_165 ?_
                      refine j_iload hx 3 dX12_readPlan_168 rfl ?_
                      have f295 := zaI (j := (v274).toNat) hS_s7 (zr (k := 32) (t2 := 89) hG ha rfl) rfl (zlen hG (zr (k := 32) (t2 := 89) hG ha rfl) (n := 150) rfl rfl) (show 0 ≤ v274 by omega) (by omega) rfl
                      refine j_iald hx hG (zr (k := 32) (t2 := 89) hG ha rfl) (by decide) rfl (zlen hG (zr (k := 32) (t2 := 89) hG ha rfl) (n := 150) rfl rfl) (by omega) (by omega) (j := (v274).toNat) rfl (v := (s7 (gP G a 32) (v274).toNat)) (by rw [e_s46, zU_at (Or.inl (zne (zr (k := 34) (t2 := 91) hG ha rfl) (zr (k := 32) (t2 := 89) hG ha rfl) (by decide))), (zFr_g hF_s39 (zr (k := 32) (t2 := 89) hG ha rfl) (by decide)), e_s37, zU_at (Or.inl (zne (zr (k := 37) (t2 := 94) hG ha rfl) (zr (k := 32) (t2 := 89) hG ha rfl) (by decide))), (zFr_g hF_s36 (zr (k := 32) (t2 := 89) hG ha rfl) (by decide)), (zFr_g hF_s35 (zr (k := 32) (t2 := 89) hG ha rfl) (by decide)), (zFr_g hF_s21 (zr (k := 32) (t2 := 89) hG ha rfl) (by decide))]) dX12_readPlan_170 ?_
                      refine j_iast hx hG (zr (k := 35) (t2 := 92) hG ha rfl) (by decide) rfl (zlen hG (zr (k := 35) (t2 := 92) hG ha rfl) (n := 900) rfl rfl) (by omega) (by omega) (j := (150 * x3 + v274).toNat) rfl dX12_readPlan_171 ?_
                      obtain ⟨s47, e_s47⟩ : ∃ z, z = zU s46 (gP G a 35) (150 * x3 + v274).toNat ((s7 (gP G a 32) (v274).toNat)) := ⟨_, rfl⟩
                      rw [← e_s47]
                      have hS_s47 : zSK G s47 := by rw [e_s47]; exact zSK_A hS_s46 (zr (k := 35) (t2 := 92) hG ha rfl) rfl rfl rfl (by omega)
                      have hP296 : zPt (s47 (gP G a 35)) (s0 (gP G a 35)) (s47 (gP G a 32)) (150 * x3) (v274 + 1) := zPt_s (by have q1 : s46 (gP G a 35) = s39 (gP G a 35) := (by rw [e_s46, zU_ne (zne (zr (k := 34) (t2 := 91) hG ha rfl) (zr (k := 35) (t2 := 92) hG ha rfl) (by decide))]); have q2 : s46 (gP G a 32) = s39 (gP G a 32) := (by rw [e_s46, zU_ne (zne (zr (k := 34) (t2 := 91) hG ha rfl) (zr (k := 32) (t2 := 89) hG ha rfl) (by decide))]); rw [q1, q2]; exact (zPt_nn fA44 (by omega) (by omega))) e_s47 (by omega) (by omega) (by omega) rfl
                      refine j_aload_n hx 0 dX12_readPlan_172 rfl ?_
                      refine g13_36 hx hG ha kf_RX12_83 dX12_readPlan_173 ?_
                      refine j_sipush hx dX12_readPlan_176 rfl ?_
                      refine j_iload_n hx 1 dX12_readPlan_179 rfl ?_
                      refine j_imul hx (r := 150 * x3) dX12_readPlan_180 rfl ?_
                      refine j_iload hx 3 dX12_readPlan_181 rfl ?_
                      refine j_iadd hx (r := 150 * x3 + v274) dX12_readPlan_183 (by omega) ?_
                      refine j_aload_n hx 0 dX12_readPlan_184 rfl ?_
                      refine g13_33 hx hG ha kf_RX12_74 dX12_readPlan_185 ?_
                      refine j_iload hx 3 dX12_readPlan_188 rfl ?_
                      have f297 := zaI (j := (v274).toNat) hS_s7 (zr (k := 33) (t2 := 90) hG ha rfl) rfl (zlen hG (zr (k := 33) (t2 := 90) hG ha rfl) (n := 150) rfl rfl) (show 0 ≤ v274 by omega) (by omega) rfl
                      refine j_iald hx hG (zr (k := 33) (t2 := 90) hG ha rfl) (by decide) rfl (zlen hG (zr (k := 33) (t2 := 90) hG ha rfl) (n := 150) rfl rfl) (by omega) (by omega) (j := (v274).toNat) rfl (v := (s7 (gP G a 33) (v274).toNat)) (by rw [e_s47, zU_at (Or.inl (zne (zr (k := 35) (t2 := 92) hG ha rfl) (zr (k := 33) (t2 := 90) hG ha rfl) (by decide))), e_s46, zU_at (Or.inl (zne (zr (k := 34) (t2 := 91) hG ha rfl) (zr (k := 33) (t2 := 90) hG ha rfl) (by decide))), (zFr_g hF_s39 (zr (k := 33) (t2 := 90) hG ha rfl) (by decide)), e_s37, zU_at (Or.inl (zne (zr (k := 37) (t2 := 94) hG ha rfl) (zr (k := 33) (t2 := 90) hG ha rfl) (by decide))), (zFr_g hF_s36 (zr (k := 33) (t2 := 90) hG ha rfl) (by decide)), (zFr_g hF_s35 (zr (k := 33) (t2 := 90) hG ha rfl) (by decide)), (zFr_g hF_s21 (zr (k := 33) (t2 := 90) hG ha rfl) (by decide))]) dX12_readPlan_190 ?_
                      refine j_iast hx hG (zr (k := 36) (t2 := 93) hG ha rfl) (by decide) rfl (zlen hG (zr (k := 36) (t2 := 93) hG ha rfl) (n := 900) rfl rfl) (by omega) (by omega) (j := (150 * x3 + v274).toNat) rfl dX12_readPlan_191 ?_
                      obtain ⟨s48, e_s48⟩ : ∃ z, z = zU s47 (gP G a 36) (150 * x3 + v274).toNat ((s7 (gP G a 33) (v274).toNat)) := ⟨_, rfl⟩
                      rw [← e_s48]
                      have hS_s48 : zSK G s48 := by rw [e_s48]; exact zSK_A hS_s47 (zr (k := 36) (t2 := 93) hG ha rfl) rfl rfl rfl (by omega)
                      refine j_iinc hx 3 [(5, .int (zI (v274 + 1))), (0, .ref a), (3, .int (zI x3)), (4, .int (zI v266))] dX12_readPlan_192 rfl (by omega) (by decide) rfl ?_
                      refine j_goto hx 123 dX12_readPlan_195 rfl ?_
                      exact j_sub [1, 2, 3, 0] [(0, .ref a), (3, .int (zI x3)), (4, .int (zI v266)), (5, .int (zI (v274 + 1)))] rfl (ih_c123_38 (v274 + 1) s48 (by omega) (by omega) hS_s48 (zFr_u (zFr_u (zFr_u (zFr_t zFr_rf hF_s39 (by decide)) e_s46 (zr (k := 34) (t2 := 91) hG ha rfl) (by decide)) e_s47 (zr (k := 35) (t2 := 92) hG ha rfl) (by decide)) e_s48 (zr (k := 36) (t2 := 93) hG ha rfl) (by decide)) (by have q1 : s48 (gP G a 34) = s46 (gP G a 34) := (by rw [e_s48, zU_ne (zne (zr (k := 36) (t2 := 93) hG ha rfl) (zr (k := 34) (t2 := 91) hG ha rfl) (by decide)), e_s47, zU_ne (zne (zr (k := 35) (t2 := 92) hG ha rfl) (zr (k := 34) (t2 := 91) hG ha rfl) (by decide))]); have q2 : s48 (gP G a 31) = s46 (gP G a 31) := (by rw [e_s48, zU_ne (zne (zr (k := 36) (t2 := 93) hG ha rfl) (zr (k := 31) (t2 := 88) hG ha rfl) (by decide)), e_s47, zU_ne (zne (zr (k := 35) (t2 := 92) hG ha rfl) (zr (k := 31) (t2 := 88) hG ha rfl) (by decide))]); rw [q1, q2]; exact (zPt_nn hP294 (by omega) (by omega))) (by have q1 : s48 (gP G a 35) = s47 (gP G a 35) := (by rw [e_s48, zU_ne (zne (zr (k := 36) (t2 := 93) hG ha rfl) (zr (k := 35) (t2 := 92) hG ha rfl) (by decide))]); have q2 : s48 (gP G a 32) = s47 (gP G a 32) := (by rw [e_s48, zU_ne (zne (zr (k := 36) (t2 := 93) hG ha rfl) (zr (k := 32) (t2 := 89) hG ha rfl) (by decide))]); rw [q1, q2]; exact (zPt_nn hP296 (by omega) (by omega))))
                exact j_sub [2, 5, 1, 0] [(0, .ref a), (3, .int (zI x3)), (4, .int (zI v266)), (5, .int (zI 0))] rfl (c123_38 (2147483648 * 4) 0 s37 (by omega) (by omega) hS_s37 zFr_rf (zPt_nn hP272 (by omega) (by omega)) (zPt_nn hP273 (by omega) (by omega)))
              · skip
                refine j_iload hx 0 dX12_readPlan_107 rfl ?_
                have f298 := zf hS_s36 ha (k := 21) rfl
                have f299 := zf hS_s36 ha (k := 22) rfl
                have f300 := zf hS_s36 ha (k := 23) rfl
                have f301 := zf hS_s36 ha (k := 24) rfl
                have f302 := zf hS_s36 ha (k := 51) rfl
                have f303 := zf hS_s36 ha (k := 52) rfl
                exact j_iret hx hq rfl (by decide) (by decide) dX12_readPlan_109 ⟨v266, rfl, rfl, hS_s36, (zFr_t (zFr_t (zFr_t (zFr_t (zFr_u (zFr_t zFr_rf hF_s5 (by decide)) e_s6 ha (by decide)) hF_s7 (by decide)) hF_s21 (by decide)) hF_s35 (by decide)) hF_s36 (by decide)), ⟨(by omega), (by have q1 : s36 (gP G a 34) = s0 (gP G a 34) := (by rw [hF_s36 (gP G a 34) (by rw [(zr (k := 34) (t2 := 91) hG ha rfl)]; decide), hF_s35 (gP G a 34) (by rw [(zr (k := 34) (t2 := 91) hG ha rfl)]; decide), hF_s21 (gP G a 34) (by rw [(zr (k := 34) (t2 := 91) hG ha rfl)]; decide), hF_s7 (gP G a 34) (by rw [(zr (k := 34) (t2 := 91) hG ha rfl)]; decide), e_s6, zU_ne (zne ha (zr (k := 34) (t2 := 91) hG ha rfl) (by decide)), hF_s5 (gP G a 34) (by rw [(zr (k := 34) (t2 := 91) hG ha rfl)]; decide)]); have q2 : s36 (gP G a 35) = s0 (gP G a 35) := (by rw [hF_s36 (gP G a 35) (by rw [(zr (k := 35) (t2 := 92) hG ha rfl)]; decide), hF_s35 (gP G a 35) (by rw [(zr (k := 35) (t2 := 92) hG ha rfl)]; decide), hF_s21 (gP G a 35) (by rw [(zr (k := 35) (t2 := 92) hG ha rfl)]; decide), hF_s7 (gP G a 35) (by rw [(zr (k := 35) (t2 := 92) hG ha rfl)]; decide), e_s6, zU_ne (zne ha (zr (k := 35) (t2 := 92) hG ha rfl) (by decide)), hF_s5 (gP G a 35) (by rw [(zr (k := 35) (t2 := 92) hG ha rfl)]; decide)]); have q3 : s36 (gP G a 37) = s0 (gP G a 37) := (by rw [hF_s36 (gP G a 37) (by rw [(zr (k := 37) (t2 := 94) hG ha rfl)]; decide), hF_s35 (gP G a 37) (by rw [(zr (k := 37) (t2 := 94) hG ha rfl)]; decide), hF_s21 (gP G a 37) (by rw [(zr (k := 37) (t2 := 94) hG ha rfl)]; decide), hF_s7 (gP G a 37) (by rw [(zr (k := 37) (t2 := 94) hG ha rfl)]; decide), e_s6, zU_ne (zne ha (zr (k := 37) (t2 := 94) hG ha rfl) (by decide)), hF_s5 (gP G a 37) (by rw [(zr (k := 37) (t2 := 94) hG ha rfl)]; decide)]); rw [q1, q2, q3]; exact e1), by omega, by omega, by omega, by omega, by omega, by omega⟩⟩

theorem lk_RX12_318 : LkV RX12 318 RX12 yX12_readPlan cX12_readPlan 6 (some .int) 3 := ⟨km_RX12_318, ki_yX12_readPlan, ks_RX12_yX12_readPlan, kn_RX12, kc_yX12_readPlan, rfl, by decide +kernel, by decide +kernel, by decide +kernel⟩
set_option maxHeartbeats 1200000 in
set_option maxRecDepth 20000 in
theorem c_X12_plan {E : zE} {l : Launch} (hst : l.stackTraces = false) (a : Nat) (x1 : Int) (x2 : Int) : Con E l yX12_plan cX12_plan 3 (some .int) { frames := 28, cells := 0, slots := 0, locals := 708 } (fun G s vs => vs = [.ref a, .int (zI x1), .int (zI x2)] ∧ zGK G ∧ zSK G s ∧ (gT G a = 13) ∧ ((-2147483648) ≤ x1 ∧ x1 ≤ 2147483647) ∧ ((-2147483648) ≤ x2 ∧ x2 ≤ 2147483647) ∧ (zRva (s (gP G a 34)) (s (gP G a 35)) (s (gP G a 37)))) (fun G s _ => pI (fun r G2 s2 => G2 = G ∧ zSK G s2 ∧ zFr [13, 71, 85, 88, 89, 90, 91, 92, 93, 94] G s s2 ∧ ((-2147483648) ≤ r ∧ r ≤ 2147483647) ∧ zRva (s2 (gP G a 34)) (s2 (gP G a 35)) (s2 (gP G a 37)) ∧ (zc (s2 (gP G a 28)) = zc (s (gP G a 28)) ∨ zc (s2 (gP G a 28)) = zc (s (gP G a 27))) ∧ (s2 (gP G a 28) 488 = s (gP G a 28) 488 ∨ s2 (gP G a 28) 488 = s (gP G a 27) 488) ∧ s2 a 21 = s a 21 ∧ s2 a 22 = s a 22 ∧ s2 a 23 = s a 23 ∧ s2 a 24 = s a 24 ∧ s2 a 51 = s a 51 ∧ s2 a 52 = s a 52)) := by
  refine Con.mk hst (by decide) (fun G s vs h => by rw [h.1]; exact Nat.le_of_ble_eq_true rfl) ?_
  rintro X G s0 vs ⟨rfl, hG, hS0, ha, hx1, hx2, e0⟩ rfl hx hq
  show JJ X E 3 G s0 0 0 [(0, .ref a), (1, .int (zI x1)), (2, .int (zI x2))] 0 []
  refine j_aload_n hx 0 dX12_plan_0 rfl ?_
  refine j_iconst hx dX12_plan_1 ?_
  refine p13_0 hx hG ha kf_RX12_3 dX12_plan_2 ?_
  obtain ⟨s1, e_s1⟩ : ∃ z, z = zU s0 a 0 0 := ⟨_, rfl⟩
  rw [← e_s1]
  have hS_s1 : zSK G s1 := by rw [e_s1]; exact zSK_F hS0 ha rfl rfl rfl (by omega)
  refine j_aload_n hx 0 dX12_plan_5 rfl ?_
  refine j_iload_n hx 1 dX12_plan_6 rfl ?_
  refine j_iload_n hx 2 dX12_plan_7 rfl ?_
  refine j_iload_n hx 1 dX12_plan_8 rfl ?_
  have g1 : s1 a 0 = 0 := (by rw [e_s1, zU_eq])
  have g2 : s1 a 21 = s0 a 21 := (by rw [e_s1, zU_at (Or.inr (by decide))])
  have f3 := zf hS0 ha (k := 21) rfl
  have g4 : s1 a 22 = s0 a 22 := (by rw [e_s1, zU_at (Or.inr (by decide))])
  have f5 := zf hS0 ha (k := 22) rfl
  have g6 : s1 a 23 = s0 a 23 := (by rw [e_s1, zU_at (Or.inr (by decide))])
  have f7 := zf hS0 ha (k := 23) rfl
  have g8 : s1 a 24 = s0 a 24 := (by rw [e_s1, zU_at (Or.inr (by decide))])
  have f9 := zf hS0 ha (k := 24) rfl
  have g10 : s1 a 51 = s0 a 51 := (by rw [e_s1, zU_at (Or.inr (by decide))])
  have f11 := zf hS0 ha (k := 51) rfl
  have g12 : s1 a 52 = s0 a 52 := (by rw [e_s1, zU_at (Or.inr (by decide))])
  have f13 := zf hS0 ha (k := 52) rfl
  refine j_callV hx hG (c_X12_readPlan hst a x1 x2 x1) lk_RX12_318 ha (by decide) rfl rfl rfl rfl [.int (zI x1), .int (zI x2), .int (zI x1)] ⟨rfl, hG, hS_s1, ha, (by omega), (by omega), (by omega), (((by rw [e_s1, zU_eq]) : s1 a 0 = 0).trans (by omega)), ((by have q1 : s1 (gP G a 34) = s0 (gP G a 34) := (by rw [e_s1, zU_ne (zne ha (zr (k := 34) (t2 := 91) hG ha rfl) (by decide))]); have q2 : s1 (gP G a 35) = s0 (gP G a 35) := (by rw [e_s1, zU_ne (zne ha (zr (k := 35) (t2 := 92) hG ha rfl) (by decide))]); have q3 : s1 (gP G a 37) = s0 (gP G a 37) := (by rw [e_s1, zU_ne (zne ha (zr (k := 37) (t2 := 94) hG ha rfl) (by decide))]); rw [q1, q2, q3]; exact e0)), (by omega)⟩ rfl rfl ⟨by decide, by decide⟩ ⟨by decide, by decide⟩ (k2 := 0) (n2 := 0) rfl rfl (Nat.le_of_ble_eq_true rfl) dX12_plan_9 (kIM (fun v14 s2 hS_s2 hF_s2 q15 => ?_))
  have f16 := zf hS_s2 ha (k := 21) rfl
  have f17 := zf hS_s2 ha (k := 22) rfl
  have f18 := zf hS_s2 ha (k := 23) rfl
  have f19 := zf hS_s2 ha (k := 24) rfl
  have f20 := zf hS_s2 ha (k := 51) rfl
  have f21 := zf hS_s2 ha (k := 52) rfl
  exact j_iret hx hq rfl (by decide) (by decide) dX12_plan_12 ⟨v14, rfl, rfl, hS_s2, (zFr_t (zFr_u zFr_rf e_s1 ha (by decide)) hF_s2 (by decide)), ⟨(by omega), q15.2.1, by omega, by omega, by omega, by omega, by omega, by omega, by omega, by omega⟩⟩

set_option maxHeartbeats 1200000 in
set_option maxRecDepth 20000 in
theorem c_X12_guess {E : zE} {l : Launch} (hst : l.stackTraces = false) (a : Nat) (x1 : Int) (x2 : Int) : Con E l yX12_guess cX12_guess 3 (some .int) { frames := 28, cells := 0, slots := 0, locals := 708 } (fun G s vs => vs = [.ref a, .int (zI x1), .int (zI x2)] ∧ zGK G ∧ zSK G s ∧ (gT G a = 13) ∧ ((-2147483648) ≤ x1 ∧ x1 ≤ 2147483647) ∧ ((-2147483648) ≤ x2 ∧ x2 ≤ 2147483647) ∧ (zRva (s (gP G a 34)) (s (gP G a 35)) (s (gP G a 37)))) (fun G s _ => pI (fun r G2 s2 => G2 = G ∧ zSK G s2 ∧ zFr [13, 71, 85, 88, 89, 90, 91, 92, 93, 94] G s s2 ∧ ((-2147483648) ≤ r ∧ r ≤ 2147483647) ∧ zRva (s2 (gP G a 34)) (s2 (gP G a 35)) (s2 (gP G a 37)) ∧ (zc (s2 (gP G a 28)) = zc (s (gP G a 28)) ∨ zc (s2 (gP G a 28)) = zc (s (gP G a 27))) ∧ (s2 (gP G a 28) 488 = s (gP G a 28) 488 ∨ s2 (gP G a 28) 488 = s (gP G a 27) 488) ∧ s2 a 21 = s a 21 ∧ s2 a 22 = s a 22 ∧ s2 a 23 = s a 23 ∧ s2 a 24 = s a 24 ∧ s2 a 51 = s a 51 ∧ s2 a 52 = s a 52)) := by
  refine Con.mk hst (by decide) (fun G s vs h => by rw [h.1]; exact Nat.le_of_ble_eq_true rfl) ?_
  rintro X G s0 vs ⟨rfl, hG, hS0, ha, hx1, hx2, e0⟩ rfl hx hq
  show JJ X E 3 G s0 0 0 [(0, .ref a), (1, .int (zI x1)), (2, .int (zI x2))] 0 []
  refine j_aload_n hx 0 dX12_guess_0 rfl ?_
  refine j_iconst hx dX12_guess_1 ?_
  refine p13_0 hx hG ha kf_RX12_3 dX12_guess_2 ?_
  obtain ⟨s1, e_s1⟩ : ∃ z, z = zU s0 a 0 0 := ⟨_, rfl⟩
  rw [← e_s1]
  have hS_s1 : zSK G s1 := by rw [e_s1]; exact zSK_F hS0 ha rfl rfl rfl (by omega)
  refine j_aload_n hx 0 dX12_guess_5 rfl ?_
  refine j_iload_n hx 1 dX12_guess_6 rfl ?_
  refine j_iload_n hx 2 dX12_guess_7 rfl ?_
  refine j_iconst hx dX12_guess_8 ?_
  refine j_iload_n hx 1 dX12_guess_9 rfl ?_
  refine j_iadd hx (r := x1 + 3) dX12_guess_10 (by omega) ?_
  refine j_norm (fun v1 f2 f3 f4 => ?_)
  have g5 : s1 a 0 = 0 := (by rw [e_s1, zU_eq])
  have g6 : s1 a 21 = s0 a 21 := (by rw [e_s1, zU_at (Or.inr (by decide))])
  have f7 := zf hS0 ha (k := 21) rfl
  have g8 : s1 a 22 = s0 a 22 := (by rw [e_s1, zU_at (Or.inr (by decide))])
  have f9 := zf hS0 ha (k := 22) rfl
  have g10 : s1 a 23 = s0 a 23 := (by rw [e_s1, zU_at (Or.inr (by decide))])
  have f11 := zf hS0 ha (k := 23) rfl
  have g12 : s1 a 24 = s0 a 24 := (by rw [e_s1, zU_at (Or.inr (by decide))])
  have f13 := zf hS0 ha (k := 24) rfl
  have g14 : s1 a 51 = s0 a 51 := (by rw [e_s1, zU_at (Or.inr (by decide))])
  have f15 := zf hS0 ha (k := 51) rfl
  have g16 : s1 a 52 = s0 a 52 := (by rw [e_s1, zU_at (Or.inr (by decide))])
  have f17 := zf hS0 ha (k := 52) rfl
  refine j_callV hx hG (c_X12_readPlan hst a x1 x2 v1) lk_RX12_318 ha (by decide) rfl rfl rfl rfl [.int (zI x1), .int (zI x2), .int (zI v1)] ⟨rfl, hG, hS_s1, ha, (by omega), (by omega), (by omega), (((by rw [e_s1, zU_eq]) : s1 a 0 = 0).trans (by omega)), ((by have q1 : s1 (gP G a 34) = s0 (gP G a 34) := (by rw [e_s1, zU_ne (zne ha (zr (k := 34) (t2 := 91) hG ha rfl) (by decide))]); have q2 : s1 (gP G a 35) = s0 (gP G a 35) := (by rw [e_s1, zU_ne (zne ha (zr (k := 35) (t2 := 92) hG ha rfl) (by decide))]); have q3 : s1 (gP G a 37) = s0 (gP G a 37) := (by rw [e_s1, zU_ne (zne ha (zr (k := 37) (t2 := 94) hG ha rfl) (by decide))]); rw [q1, q2, q3]; exact e0)), (by omega)⟩ rfl rfl ⟨by decide, by decide⟩ ⟨by decide, by decide⟩ (k2 := 0) (n2 := 0) rfl rfl (Nat.le_of_ble_eq_true rfl) dX12_guess_11 (kIM (fun v18 s2 hS_s2 hF_s2 q19 => ?_))
  have f20 := zf hS_s2 ha (k := 21) rfl
  have f21 := zf hS_s2 ha (k := 22) rfl
  have f22 := zf hS_s2 ha (k := 23) rfl
  have f23 := zf hS_s2 ha (k := 24) rfl
  have f24 := zf hS_s2 ha (k := 51) rfl
  have f25 := zf hS_s2 ha (k := 52) rfl
  exact j_iret hx hq rfl (by decide) (by decide) dX12_guess_14 ⟨v18, rfl, rfl, hS_s2, (zFr_t (zFr_u zFr_rf e_s1 ha (by decide)) hF_s2 (by decide)), ⟨(by omega), q19.2.1, by omega, by omega, by omega, by omega, by omega, by omega, by omega, by omega⟩⟩

set_option maxHeartbeats 1200000 in
set_option maxRecDepth 20000 in
theorem c_X12_book {E : zE} {l : Launch} (hst : l.stackTraces = false) (a : Nat) (x1 : Int) : Con E l yX12_book cX12_book 6 (some .int) { frames := 2, cells := 0, slots := 0, locals := 47 } (fun G s vs => vs = [.ref a, .int (zI x1)] ∧ zGK G ∧ zSK G s ∧ (gT G a = 13) ∧ ((-2147483648) ≤ x1 ∧ x1 ≤ 2147483647)) (fun G s _ => pI (fun r G2 s2 => G2 = G ∧ zSK G s2 ∧ zFr [13, 71, 96, 97] G s s2 ∧ ((-2147483648) ≤ r ∧ r ≤ 2147483647) ∧ s2 a 21 = s a 21 ∧ s2 a 22 = s a 22 ∧ s2 a 23 = s a 23 ∧ s2 a 24 = s a 24 ∧ s2 a 38 = s a 38 ∧ s2 a 51 = s a 51 ∧ s2 a 52 = s a 52)) := by
  refine Con.mk hst (by decide) (fun G s vs h => by rw [h.1]; exact Nat.le_of_ble_eq_true rfl) ?_
  rintro X G s0 vs ⟨rfl, hG, hS0, ha, hx1⟩ rfl hx hq
  show JJ X E 6 G s0 0 0 [(0, .ref a), (1, .int (zI x1))] 0 []
  refine j_aload_n hx 0 dX12_book_0 rfl ?_
  refine j_iconst hx dX12_book_1 ?_
  refine p13_0 hx hG ha kf_RX12_3 dX12_book_2 ?_
  obtain ⟨s1, e_s1⟩ : ∃ z, z = zU s0 a 0 0 := ⟨_, rfl⟩
  rw [← e_s1]
  have hS_s1 : zSK G s1 := by rw [e_s1]; exact zSK_F hS0 ha rfl rfl rfl (by omega)
  refine j_aload_n hx 0 dX12_book_5 rfl ?_
  refine j_iload_n hx 1 dX12_book_6 rfl ?_
  refine j_if_lt hx 28 dX12_book_7 rfl (by omega) (fun h1 => ?_) (fun h1 => ?_)
  · skip
    refine j_iconst hx dX12_book_28 ?_
    refine j_iconst hx dX12_book_29 ?_
    refine j_iconst hx dX12_book_30 ?_
    have g2 : s1 a 0 = 0 := (by rw [e_s1, zU_eq])
    have g3 : s1 a 3 = s0 a 3 := (by rw [e_s1, zU_at (Or.inr (by decide))])
    have f4 := zf hS0 ha (k := 3) rfl
    have g5 : s1 a 4 = s0 a 4 := (by rw [e_s1, zU_at (Or.inr (by decide))])
    have f6 := zf hS0 ha (k := 4) rfl
    have g7 : s1 a 5 = s0 a 5 := (by rw [e_s1, zU_at (Or.inr (by decide))])
    have f8 := zf hS0 ha (k := 5) rfl
    have g9 : s1 a 7 = s0 a 7 := (by rw [e_s1, zU_at (Or.inr (by decide))])
    have f10 := zf hS0 ha (k := 7) rfl
    have g11 : s1 a 21 = s0 a 21 := (by rw [e_s1, zU_at (Or.inr (by decide))])
    have f12 := zf hS0 ha (k := 21) rfl
    have g13 : s1 a 22 = s0 a 22 := (by rw [e_s1, zU_at (Or.inr (by decide))])
    have f14 := zf hS0 ha (k := 22) rfl
    have g15 : s1 a 23 = s0 a 23 := (by rw [e_s1, zU_at (Or.inr (by decide))])
    have f16 := zf hS0 ha (k := 23) rfl
    have g17 : s1 a 24 = s0 a 24 := (by rw [e_s1, zU_at (Or.inr (by decide))])
    have f18 := zf hS0 ha (k := 24) rfl
    have g19 : s1 a 38 = s0 a 38 := (by rw [e_s1, zU_at (Or.inr (by decide))])
    have f20 := zf hS0 ha (k := 38) rfl
    have g21 : s1 a 51 = s0 a 51 := (by rw [e_s1, zU_at (Or.inr (by decide))])
    have f22 := zf hS0 ha (k := 51) rfl
    have g23 : s1 a 52 = s0 a 52 := (by rw [e_s1, zU_at (Or.inr (by decide))])
    have f24 := zf hS0 ha (k := 52) rfl
    refine j_callV hx hG (c_X12_may_f hst a 0 1 1) lk_RX12_240 ha (by decide) rfl rfl rfl rfl [.int (zI 0), .int (zI 1), .int (zI 1)] ⟨rfl, hG, hS_s1, ha, (by omega), (by omega), (by omega), (((by rw [e_s1, zU_eq]) : s1 a 0 = 0).trans (by omega))⟩ rfl rfl ⟨by decide, by decide⟩ ⟨by decide, by decide⟩ (k2 := 0) (n2 := 0) rfl rfl (Nat.le_of_ble_eq_true rfl) dX12_book_31 (kIM (fun v25 s2 hS_s2 hF_s2 q26 => ?_))
    refine j_if_ne hx 39 dX12_book_34 rfl (by omega) (fun h27 => absurd h27 (by omega)) (fun h27 => ?_)
    refine j_iconst hx dX12_book_37 ?_
    have f28 := zf hS_s2 ha (k := 21) rfl
    have f29 := zf hS_s2 ha (k := 22) rfl
    have f30 := zf hS_s2 ha (k := 23) rfl
    have f31 := zf hS_s2 ha (k := 24) rfl
    have f32 := zf hS_s2 ha (k := 38) rfl
    have f33 := zf hS_s2 ha (k := 51) rfl
    have f34 := zf hS_s2 ha (k := 52) rfl
    exact j_iret hx hq rfl (by decide) (by decide) dX12_book_38 ⟨0, rfl, rfl, hS_s2, (zFr_t (zFr_u zFr_rf e_s1 ha (by decide)) hF_s2 (by decide)), ⟨(by omega), by omega, by omega, by omega, by omega, by omega, by omega, by omega⟩⟩
  · skip
    refine j_iload_n hx 1 dX12_book_10 rfl ?_
    refine j_aload_n hx 0 dX12_book_11 rfl ?_
    have f35 := zf hS0 ha (k := 2) rfl
    refine g13_2 hx hG ha kf_RX12_134 (v := (s0 a 2)) (by rw [e_s1, zU_at (Or.inr (by decide))]) dX12_book_12 ?_
    refine j_icmp_gt hx 28 dX12_book_15 rfl (by omega) (by omega) (fun h36 => ?_) (fun h36 => ?_)
    · skip
      refine j_iconst hx dX12_book_28 ?_
      refine j_iconst hx dX12_book_29 ?_
      refine j_iconst hx dX12_book_30 ?_
      have g37 : s1 a 0 = 0 := (by rw [e_s1, zU_eq])
      have g38 : s1 a 3 = s0 a 3 := (by rw [e_s1, zU_at (Or.inr (by decide))])
      have f39 := zf hS0 ha (k := 3) rfl
      have g40 : s1 a 4 = s0 a 4 := (by rw [e_s1, zU_at (Or.inr (by decide))])
      have f41 := zf hS0 ha (k := 4) rfl
      have g42 : s1 a 5 = s0 a 5 := (by rw [e_s1, zU_at (Or.inr (by decide))])
      have f43 := zf hS0 ha (k := 5) rfl
      have g44 : s1 a 7 = s0 a 7 := (by rw [e_s1, zU_at (Or.inr (by decide))])
      have f45 := zf hS0 ha (k := 7) rfl
      have g46 : s1 a 21 = s0 a 21 := (by rw [e_s1, zU_at (Or.inr (by decide))])
      have f47 := zf hS0 ha (k := 21) rfl
      have g48 : s1 a 22 = s0 a 22 := (by rw [e_s1, zU_at (Or.inr (by decide))])
      have f49 := zf hS0 ha (k := 22) rfl
      have g50 : s1 a 23 = s0 a 23 := (by rw [e_s1, zU_at (Or.inr (by decide))])
      have f51 := zf hS0 ha (k := 23) rfl
      have g52 : s1 a 24 = s0 a 24 := (by rw [e_s1, zU_at (Or.inr (by decide))])
      have f53 := zf hS0 ha (k := 24) rfl
      have g54 : s1 a 38 = s0 a 38 := (by rw [e_s1, zU_at (Or.inr (by decide))])
      have f55 := zf hS0 ha (k := 38) rfl
      have g56 : s1 a 51 = s0 a 51 := (by rw [e_s1, zU_at (Or.inr (by decide))])
      have f57 := zf hS0 ha (k := 51) rfl
      have g58 : s1 a 52 = s0 a 52 := (by rw [e_s1, zU_at (Or.inr (by decide))])
      have f59 := zf hS0 ha (k := 52) rfl
      refine j_callV hx hG (c_X12_may_f hst a 0 1 1) lk_RX12_240 ha (by decide) rfl rfl rfl rfl [.int (zI 0), .int (zI 1), .int (zI 1)] ⟨rfl, hG, hS_s1, ha, (by omega), (by omega), (by omega), (((by rw [e_s1, zU_eq]) : s1 a 0 = 0).trans (by omega))⟩ rfl rfl ⟨by decide, by decide⟩ ⟨by decide, by decide⟩ (k2 := 0) (n2 := 0) rfl rfl (Nat.le_of_ble_eq_true rfl) dX12_book_31 (kIM (fun v60 s3 hS_s3 hF_s3 q61 => ?_))
      refine j_if_ne hx 39 dX12_book_34 rfl (by omega) (fun h62 => absurd h62 (by omega)) (fun h62 => ?_)
      refine j_iconst hx dX12_book_37 ?_
      have f63 := zf hS_s3 ha (k := 21) rfl
      have f64 := zf hS_s3 ha (k := 22) rfl
      have f65 := zf hS_s3 ha (k := 23) rfl
      have f66 := zf hS_s3 ha (k := 24) rfl
      have f67 := zf hS_s3 ha (k := 38) rfl
      have f68 := zf hS_s3 ha (k := 51) rfl
      have f69 := zf hS_s3 ha (k := 52) rfl
      exact j_iret hx hq rfl (by decide) (by decide) dX12_book_38 ⟨0, rfl, rfl, hS_s3, (zFr_t (zFr_u zFr_rf e_s1 ha (by decide)) hF_s3 (by decide)), ⟨(by omega), by omega, by omega, by omega, by omega, by omega, by omega, by omega⟩⟩
    · skip
      refine j_iload_n hx 1 dX12_book_18 rfl ?_
      refine j_bipush hx dX12_book_19 rfl ?_
      refine j_icmp_gt hx 28 dX12_book_21 rfl (by omega) ⟨by decide, by decide⟩ (fun h70 => ?_) (fun h70 => ?_)
      · skip
        refine j_iconst hx dX12_book_28 ?_
        refine j_iconst hx dX12_book_29 ?_
        refine j_iconst hx dX12_book_30 ?_
        have g71 : s1 a 0 = 0 := (by rw [e_s1, zU_eq])
        have g72 : s1 a 3 = s0 a 3 := (by rw [e_s1, zU_at (Or.inr (by decide))])
        have f73 := zf hS0 ha (k := 3) rfl
        have g74 : s1 a 4 = s0 a 4 := (by rw [e_s1, zU_at (Or.inr (by decide))])
        have f75 := zf hS0 ha (k := 4) rfl
        have g76 : s1 a 5 = s0 a 5 := (by rw [e_s1, zU_at (Or.inr (by decide))])
        have f77 := zf hS0 ha (k := 5) rfl
        have g78 : s1 a 7 = s0 a 7 := (by rw [e_s1, zU_at (Or.inr (by decide))])
        have f79 := zf hS0 ha (k := 7) rfl
        have g80 : s1 a 21 = s0 a 21 := (by rw [e_s1, zU_at (Or.inr (by decide))])
        have f81 := zf hS0 ha (k := 21) rfl
        have g82 : s1 a 22 = s0 a 22 := (by rw [e_s1, zU_at (Or.inr (by decide))])
        have f83 := zf hS0 ha (k := 22) rfl
        have g84 : s1 a 23 = s0 a 23 := (by rw [e_s1, zU_at (Or.inr (by decide))])
        have f85 := zf hS0 ha (k := 23) rfl
        have g86 : s1 a 24 = s0 a 24 := (by rw [e_s1, zU_at (Or.inr (by decide))])
        have f87 := zf hS0 ha (k := 24) rfl
        have g88 : s1 a 38 = s0 a 38 := (by rw [e_s1, zU_at (Or.inr (by decide))])
        have f89 := zf hS0 ha (k := 38) rfl
        have g90 : s1 a 51 = s0 a 51 := (by rw [e_s1, zU_at (Or.inr (by decide))])
        have f91 := zf hS0 ha (k := 51) rfl
        have g92 : s1 a 52 = s0 a 52 := (by rw [e_s1, zU_at (Or.inr (by decide))])
        have f93 := zf hS0 ha (k := 52) rfl
        refine j_callV hx hG (c_X12_may_f hst a 0 1 1) lk_RX12_240 ha (by decide) rfl rfl rfl rfl [.int (zI 0), .int (zI 1), .int (zI 1)] ⟨rfl, hG, hS_s1, ha, (by omega), (by omega), (by omega), (((by rw [e_s1, zU_eq]) : s1 a 0 = 0).trans (by omega))⟩ rfl rfl ⟨by decide, by decide⟩ ⟨by decide, by decide⟩ (k2 := 0) (n2 := 0) rfl rfl (Nat.le_of_ble_eq_true rfl) dX12_book_31 (kIM (fun v94 s4 hS_s4 hF_s4 q95 => ?_))
        refine j_if_ne hx 39 dX12_book_34 rfl (by omega) (fun h96 => absurd h96 (by omega)) (fun h96 => ?_)
        refine j_iconst hx dX12_book_37 ?_
        have f97 := zf hS_s4 ha (k := 21) rfl
        have f98 := zf hS_s4 ha (k := 22) rfl
        have f99 := zf hS_s4 ha (k := 23) rfl
        have f100 := zf hS_s4 ha (k := 24) rfl
        have f101 := zf hS_s4 ha (k := 38) rfl
        have f102 := zf hS_s4 ha (k := 51) rfl
        have f103 := zf hS_s4 ha (k := 52) rfl
        exact j_iret hx hq rfl (by decide) (by decide) dX12_book_38 ⟨0, rfl, rfl, hS_s4, (zFr_t (zFr_u zFr_rf e_s1 ha (by decide)) hF_s4 (by decide)), ⟨(by omega), by omega, by omega, by omega, by omega, by omega, by omega, by omega⟩⟩
      · skip
        refine j_iconst hx dX12_book_24 ?_
        refine j_goto hx 29 dX12_book_25 rfl ?_
        refine j_iconst hx dX12_book_29 ?_
        refine j_iconst hx dX12_book_30 ?_
        have g104 : s1 a 0 = 0 := (by rw [e_s1, zU_eq])
        refine j_callV hx hG (c_X12_may_t hst a 1 1 1) lk_RX12_240 ha (by decide) rfl rfl rfl rfl [.int (zI 1), .int (zI 1), .int (zI 1)] ⟨rfl, hG, hS_s1, ha, (by omega), (by omega), (by omega), (((by rw [e_s1, zU_eq]) : s1 a 0 = 0).trans (by omega))⟩ rfl rfl ⟨by decide, by decide⟩ ⟨by decide, by decide⟩ (k2 := 0) (n2 := 0) rfl rfl (Nat.le_of_ble_eq_true rfl) dX12_book_31 (kIP (fun v105 q106 => ?_))
        refine j_if_ne hx 39 dX12_book_34 rfl (by omega) (fun h107 => ?_) (fun h107 => absurd h107 (by omega))
        refine j_aload_n hx 0 dX12_book_39 rfl ?_
        refine j_iload_n hx 1 dX12_book_40 rfl ?_
        have g108 : s1 a 21 = s0 a 21 := (by rw [e_s1, zU_at (Or.inr (by decide))])
        have f109 := zf hS0 ha (k := 21) rfl
        have g110 : s1 a 22 = s0 a 22 := (by rw [e_s1, zU_at (Or.inr (by decide))])
        have f111 := zf hS0 ha (k := 22) rfl
        have g112 : s1 a 23 = s0 a 23 := (by rw [e_s1, zU_at (Or.inr (by decide))])
        have f113 := zf hS0 ha (k := 23) rfl
        have g114 : s1 a 24 = s0 a 24 := (by rw [e_s1, zU_at (Or.inr (by decide))])
        have f115 := zf hS0 ha (k := 24) rfl
        have g116 : s1 a 38 = s0 a 38 := (by rw [e_s1, zU_at (Or.inr (by decide))])
        have f117 := zf hS0 ha (k := 38) rfl
        have g118 : s1 a 51 = s0 a 51 := (by rw [e_s1, zU_at (Or.inr (by decide))])
        have f119 := zf hS0 ha (k := 51) rfl
        have g120 : s1 a 52 = s0 a 52 := (by rw [e_s1, zU_at (Or.inr (by decide))])
        have f121 := zf hS0 ha (k := 52) rfl
        refine j_callV hx hG (c_X12_begins hst a x1) lk_RX12_244 ha (by decide) rfl rfl rfl rfl [.int (zI x1)] ⟨rfl, hG, hS_s1, ha, (by omega)⟩ rfl rfl ⟨by decide, by decide⟩ ⟨by decide, by decide⟩ (k2 := 0) (n2 := 0) rfl rfl (Nat.le_of_ble_eq_true rfl) dX12_book_41 (kVM (fun s5 hS_s5 hF_s5 q123 => ?_))
        refine j_iconst hx dX12_book_44 ?_
        refine j_istore_n hx [(2, .int (zI 0)), (0, .ref a), (1, .int (zI x1))] dX12_book_45 (by decide) rfl ?_
        have f125 := zf hS_s5 ha (k := 0) rfl
        have f126 := zf hS_s5 ha (k := 3) rfl
        have f127 := zf hS_s5 ha (k := 21) rfl
        have f128 := zf hS_s5 ha (k := 22) rfl
        have f129 := zf hS_s5 ha (k := 23) rfl
        have f130 := zf hS_s5 ha (k := 24) rfl
        have f131 := zf hS_s5 ha (k := 38) rfl
        have f132 := zf hS_s5 ha (k := 51) rfl
        have f133 := zf hS_s5 ha (k := 52) rfl
        have c46_6 : ∀ (m_c46_6 : Nat) (v124 : Int) (s7 : zS), 3000 - 2 * s7 a 4 - s7 a 5 < m_c46_6 → (0 ≤ v124 ∧ v124 ≤ 12) → (zSK G s7) → (zFr [13, 96] G s5 s7) → (s7 a 0 = s5 a 0) → (s7 a 3 = s5 a 3) → (s7 a 7 = s5 a 7) → (s7 a 21 = s5 a 21) → (s7 a 22 = s5 a 22) → (s7 a 23 = s5 a 23) → (s7 a 24 = s5 a 24) → (s7 a 38 = s5 a 38) → (s7 a 51 = s5 a 51) → (s7 a 52 = s5 a 52) → (s5 a 4 ≤ s7 a 4) → (s7 a 4 ≤ s7 a 3 + 2) → (s7 a 4 ≤ 700) → (s7 a 5 ≤ 700) → JJ X E 6 G s7 0 0 [(0, .ref a), (2, .int (zI v124))] 46 [] := by
          intro m_c46_6
          induction m_c46_6 with
          | zero => intro v124 s7 hm_c46_6 fA8 hS_s7 hF_s7 fA11 fA12 fA13 fA14 fA15 fA16 fA17 fA18 fA19 fA20 fA21 fA22 fA23 fA24; exfalso; omega
          | succ m_c46_6 ih_c46_6 => 
            intro v124 s7 hm_c46_6 fA8 hS_s7 hF_s7 fA11 fA12 fA13 fA14 fA15 fA16 fA17 fA18 fA19 fA20 fA21 fA22 fA23 fA24
            refine j_aload_n hx 0 dX12_book_46 rfl ?_
            refine j_callV hx hG (c_X12_fine hst a) lk_RX12_166 ha (by decide) rfl rfl rfl rfl [] ⟨rfl, hG, hS_s7, ha⟩ rfl rfl ⟨by decide, by decide⟩ ⟨by decide, by decide⟩ (k2 := 0) (n2 := 0) rfl rfl (Nat.le_of_ble_eq_true rfl) dX12_book_47 (kIP (fun v134 q135 => ?_))
            refine j_if_eq hx 151 dX12_book_50 rfl (by omega) (fun h136 => ?_) (fun h136 => ?_)
            · skip
              refine j_aload_n hx 0 dX12_book_151 rfl ?_
              refine j_iload_n hx 1 dX12_book_152 rfl ?_
              have f137 := zf hS_s7 ha (k := 0) rfl
              have f138 := zf hS_s7 ha (k := 3) rfl
              have f139 := zf hS_s7 ha (k := 4) rfl
              have f140 := zf hS_s7 ha (k := 5) rfl
              have f141 := zf hS_s7 ha (k := 7) rfl
              have f142 := zf hS_s7 ha (k := 21) rfl
              have f143 := zf hS_s7 ha (k := 22) rfl
              have f144 := zf hS_s7 ha (k := 23) rfl
              have f145 := zf hS_s7 ha (k := 24) rfl
              have f146 := zf hS_s7 ha (k := 38) rfl
              have f147 := zf hS_s7 ha (k := 51) rfl
              have f148 := zf hS_s7 ha (k := 52) rfl
              refine j_callV hx hG (c_X12_result hst a v124) lk_RX12_265 ha (by decide) rfl rfl rfl rfl [.int (zI v124)] ⟨rfl, hG, hS_s7, ha, (by omega)⟩ rfl rfl ⟨by decide, by decide⟩ ⟨by decide, by decide⟩ (k2 := 0) (n2 := 0) rfl rfl (Nat.le_of_ble_eq_true rfl) dX12_book_153 (kIM (fun v149 s25 hS_s25 hF_s25 q150 => ?_))
              refine j_istore_n hx [(3, .int (zI v149)), (0, .ref a), (2, .int (zI v124))] dX12_book_156 (by decide) rfl ?_
              refine j_aload_n hx 1 dX12_book_157 rfl ?_
              have f151 := zf hS_s25 ha (k := 5) rfl
              refine g13_5 hx hG ha kf_RX12_137 rfl dX12_book_158 ?_
              refine j_iconst hx dX12_book_161 ?_
              refine j_icmp_eq hx 167 dX12_book_162 rfl (by omega) ⟨by decide, by decide⟩ (fun h152 => ?_) (fun h152 => ?_)
              · skip
                refine j_aload_n hx 1 dX12_book_167 rfl ?_
                refine j_iload_n hx 2 dX12_book_168 rfl ?_
                refine p13_41 hx hG ha kf_RX12_198 dX12_book_169 ?_
                obtain ⟨s26, e_s26⟩ : ∃ z, z = zU s25 a 41 v124 := ⟨_, rfl⟩
                rw [← e_s26]
                have hS_s26 : zSK G s26 := by rw [e_s26]; exact zSK_F hS_s25 ha rfl rfl rfl (by omega)
                refine j_iconst hx dX12_book_172 ?_
                refine j_istore hx [(4, .int (zI 0)), (3, .int (zI v149)), (0, .ref a), (2, .int (zI v124))] dX12_book_173 (by decide) rfl ?_
                have c175_27 : ∀ (m_c175_27 : Nat) (v153 : Int) (s28 : zS), 2147483648 - v153 < m_c175_27 → (0 ≤ v153 ∧ v153 ≤ 2147483647) → (zSK G s28) → (zFr [97] G s26 s28) → JJ X E 6 G s28 0 0 [(0, .ref a), (2, .int (zI v124)), (3, .int (zI v149)), (4, .int (zI v153))] 175 [] := by
                  intro m_c175_27
                  induction m_c175_27 with
                  | zero => intro v153 s28 hm_c175_27 fA29 hS_s28 hF_s28; exfalso; omega
                  | succ m_c175_27 ih_c175_27 => 
                    intro v153 s28 hm_c175_27 fA29 hS_s28 hF_s28
                    refine j_iload hx 3 dX12_book_175 rfl ?_
                    refine j_iconst hx dX12_book_177 ?_
                    refine j_iload_n hx 1 dX12_book_178 rfl ?_
                    refine j_imul hx (r := 2 * v124) dX12_book_179 rfl ?_
                    refine j_icmp_ge hx 203 dX12_book_180 rfl (by omega) (by omega) (fun h154 => ?_) (fun h154 => ?_)
                    · skip
                      refine j_iload_n hx 2 dX12_book_203 rfl ?_
                      have g155 : s28 a 21 = s25 a 21 := (by rw [(zFr_g hF_s28 ha (by decide)), e_s26, zU_at (Or.inr (by decide))])
                      have f156 := zf hS_s25 ha (k := 21) rfl
                      have g157 : s28 a 22 = s25 a 22 := (by rw [(zFr_g hF_s28 ha (by decide)), e_s26, zU_at (Or.inr (by decide))])
                      have f158 := zf hS_s25 ha (k := 22) rfl
                      have g159 : s28 a 23 = s25 a 23 := (by rw [(zFr_g hF_s28 ha (by decide)), e_s26, zU_at (Or.inr (by decide))])
                      have f160 := zf hS_s25 ha (k := 23) rfl
                      have g161 : s28 a 24 = s25 a 24 := (by rw [(zFr_g hF_s28 ha (by decide)), e_s26, zU_at (Or.inr (by decide))])
                      have f162 := zf hS_s25 ha (k := 24) rfl
                      have g163 : s28 a 38 = s25 a 38 := (by rw [(zFr_g hF_s28 ha (by decide)), e_s26, zU_at (Or.inr (by decide))])
                      have f164 := zf hS_s25 ha (k := 38) rfl
                      have g165 : s28 a 51 = s25 a 51 := (by rw [(zFr_g hF_s28 ha (by decide)), e_s26, zU_at (Or.inr (by decide))])
                      have f166 := zf hS_s25 ha (k := 51) rfl
                      have g167 : s28 a 52 = s25 a 52 := (by rw [(zFr_g hF_s28 ha (by decide)), e_s26, zU_at (Or.inr (by decide))])
                      have f168 := zf hS_s25 ha (k := 52) rfl
                      exact j_iret hx hq rfl (by decide) (by decide) dX12_book_204 ⟨v149, rfl, rfl, hS_s28, (zFr_t (zFr_u (zFr_t (zFr_t (zFr_t (zFr_u zFr_rf e_s1 ha (by decide)) hF_s5 (by decide)) hF_s7 (by decide)) hF_s25 (by decide)) e_s26 ha (by decide)) hF_s28 (by decide)), ⟨(by omega), by omega, by omega, by omega, by omega, by omega, by omega, by omega⟩⟩
                    · skip
                      refine j_aload_n hx 0 dX12_book_183 rfl ?_
                      refine g13_40 hx hG ha kf_RX12_92 dX12_book_184 ?_
                      refine j_iload hx 3 dX12_book_187 rfl ?_
                      refine j_aload_n hx 0 dX12_book_189 rfl ?_
                      refine g13_39 hx hG ha kf_RX12_89 dX12_book_190 ?_
                      refine j_iload hx 3 dX12_book_193 rfl ?_
                      have f169 := zaI (j := (v153).toNat) hS_s7 (zr (k := 39) (t2 := 96) hG ha rfl) rfl (zlen hG (zr (k := 39) (t2 := 96) hG ha rfl) (n := 24) rfl rfl) (show 0 ≤ v153 by omega) (by omega) rfl
                      refine j_iald hx hG (zr (k := 39) (t2 := 96) hG ha rfl) (by decide) rfl (zlen hG (zr (k := 39) (t2 := 96) hG ha rfl) (n := 24) rfl rfl) (by omega) (by omega) (j := (v153).toNat) rfl (v := (s7 (gP G a 39) (v153).toNat)) (by rw [(zFr_g hF_s28 (zr (k := 39) (t2 := 96) hG ha rfl) (by decide)), e_s26, zU_at (Or.inl (zne ha (zr (k := 39) (t2 := 96) hG ha rfl) (by decide))), (zFr_g hF_s25 (zr (k := 39) (t2 := 96) hG ha rfl) (by decide))]) dX12_book_195 ?_
                      refine j_iast hx hG (zr (k := 40) (t2 := 97) hG ha rfl) (by decide) rfl (zlen hG (zr (k := 40) (t2 := 97) hG ha rfl) (n := 24) rfl rfl) (by omega) (by omega) (j := (v153).toNat) rfl dX12_book_196 ?_
                      obtain ⟨s32, e_s32⟩ : ∃ z, z = zU s28 (gP G a 40) (v153).toNat ((s7 (gP G a 39) (v153).toNat)) := ⟨_, rfl⟩
                      rw [← e_s32]
                      have hS_s32 : zSK G s32 := by rw [e_s32]; exact zSK_A hS_s28 (zr (k := 40) (t2 := 97) hG ha rfl) rfl rfl rfl (by omega)
                      refine j_iinc hx 3 [(4, .int (zI (v153 + 1))), (0, .ref a), (2, .int (zI v124)), (3, .int (zI v149))] dX12_book_197 rfl (by omega) (by decide) rfl ?_
                      refine j_goto hx 175 dX12_book_200 rfl ?_
                      exact j_sub [1, 2, 3, 0] [(0, .ref a), (2, .int (zI v124)), (3, .int (zI v149)), (4, .int (zI (v153 + 1)))] rfl (ih_c175_27 (v153 + 1) s32 (by omega) (by omega) hS_s32 (zFr_u (zFr_t zFr_rf hF_s28 (by decide)) e_s32 (zr (k := 40) (t2 := 97) hG ha rfl) (by decide)))
                exact j_sub [2, 3, 1, 0] [(0, .ref a), (2, .int (zI v124)), (3, .int (zI v149)), (4, .int (zI 0))] rfl (c175_27 (2147483648 * 4) 0 s26 (by omega) (by omega) hS_s26 zFr_rf)
              · skip
                refine j_iload_n hx 0 dX12_book_165 rfl ?_
                have f170 := zf hS_s25 ha (k := 21) rfl
                have f171 := zf hS_s25 ha (k := 22) rfl
                have f172 := zf hS_s25 ha (k := 23) rfl
                have f173 := zf hS_s25 ha (k := 24) rfl
                have f174 := zf hS_s25 ha (k := 38) rfl
                have f175 := zf hS_s25 ha (k := 51) rfl
                have f176 := zf hS_s25 ha (k := 52) rfl
                exact j_iret hx hq rfl (by decide) (by decide) dX12_book_166 ⟨v149, rfl, rfl, hS_s25, (zFr_t (zFr_t (zFr_t (zFr_u zFr_rf e_s1 ha (by decide)) hF_s5 (by decide)) hF_s7 (by decide)) hF_s25 (by decide)), ⟨(by omega), by omega, by omega, by omega, by omega, by omega, by omega, by omega⟩⟩
            · skip
              refine j_aload_n hx 0 dX12_book_53 rfl ?_
              have f177 := zf hS_s7 ha (k := 4) rfl
              have f178 := zf hS_s7 ha (k := 3) rfl
              have f179 := zf hS_s7 ha (k := 0) rfl
              have f180 := zf hS_s7 ha (k := 5) rfl
              have f181 := zf hS_s7 ha (k := 7) rfl
              have f182 := zf hS_s7 ha (k := 21) rfl
              have f183 := zf hS_s7 ha (k := 22) rfl
              have f184 := zf hS_s7 ha (k := 23) rfl
              have f185 := zf hS_s7 ha (k := 24) rfl
              have f186 := zf hS_s7 ha (k := 38) rfl
              have f187 := zf hS_s7 ha (k := 51) rfl
              have f188 := zf hS_s7 ha (k := 52) rfl
              refine j_callV hx hG (c_X12_isMore hst a) lk_RX12_247 ha (by decide) rfl rfl rfl rfl [] ⟨rfl, hG, hS_s7, ha, (by omega)⟩ rfl rfl ⟨by decide, by decide⟩ ⟨by decide, by decide⟩ (k2 := 0) (n2 := 0) rfl rfl (Nat.le_of_ble_eq_true rfl) dX12_book_54 (kIM (fun v189 s33 hS_s33 hF_s33 q190 => ?_))
              refine j_if_eq hx 151 dX12_book_57 rfl (by omega) (fun h191 => ?_) (fun h191 => ?_)
              · skip
                refine j_aload_n hx 0 dX12_book_151 rfl ?_
                refine j_iload_n hx 1 dX12_book_152 rfl ?_
                have f192 := zf hS_s33 ha (k := 0) rfl
                have f193 := zf hS_s33 ha (k := 3) rfl
                have f194 := zf hS_s33 ha (k := 4) rfl
                have f195 := zf hS_s33 ha (k := 5) rfl
                have f196 := zf hS_s33 ha (k := 7) rfl
                have f197 := zf hS_s33 ha (k := 21) rfl
                have f198 := zf hS_s33 ha (k := 22) rfl
                have f199 := zf hS_s33 ha (k := 23) rfl
                have f200 := zf hS_s33 ha (k := 24) rfl
                have f201 := zf hS_s33 ha (k := 38) rfl
                have f202 := zf hS_s33 ha (k := 51) rfl
                have f203 := zf hS_s33 ha (k := 52) rfl
                refine j_callV hx hG (c_X12_result hst a v124) lk_RX12_265 ha (by decide) rfl rfl rfl rfl [.int (zI v124)] ⟨rfl, hG, hS_s33, ha, (by omega)⟩ rfl rfl ⟨by decide, by decide⟩ ⟨by decide, by decide⟩ (k2 := 0) (n2 := 0) rfl rfl (Nat.le_of_ble_eq_true rfl) dX12_book_153 (kIM (fun v204 s34 hS_s34 hF_s34 q205 => ?_))
                refine j_istore_n hx [(3, .int (zI v204)), (0, .ref a), (2, .int (zI v124))] dX12_book_156 (by decide) rfl ?_
                refine j_aload_n hx 1 dX12_book_157 rfl ?_
                have f206 := zf hS_s34 ha (k := 5) rfl
                refine g13_5 hx hG ha kf_RX12_137 rfl dX12_book_158 ?_
                refine j_iconst hx dX12_book_161 ?_
                refine j_icmp_eq hx 167 dX12_book_162 rfl (by omega) ⟨by decide, by decide⟩ (fun h207 => ?_) (fun h207 => ?_)
                · skip
                  refine j_aload_n hx 1 dX12_book_167 rfl ?_
                  refine j_iload_n hx 2 dX12_book_168 rfl ?_
                  refine p13_41 hx hG ha kf_RX12_198 dX12_book_169 ?_
                  obtain ⟨s35, e_s35⟩ : ∃ z, z = zU s34 a 41 v124 := ⟨_, rfl⟩
                  rw [← e_s35]
                  have hS_s35 : zSK G s35 := by rw [e_s35]; exact zSK_F hS_s34 ha rfl rfl rfl (by omega)
                  refine j_iconst hx dX12_book_172 ?_
                  refine j_istore hx [(4, .int (zI 0)), (3, .int (zI v204)), (0, .ref a), (2, .int (zI v124))] dX12_book_173 (by decide) rfl ?_
                  have c175_36 : ∀ (m_c175_36 : Nat) (v208 : Int) (s37 : zS), 2147483648 - v208 < m_c175_36 → (0 ≤ v208 ∧ v208 ≤ 2147483647) → (zSK G s37) → (zFr [97] G s35 s37) → JJ X E 6 G s37 0 0 [(0, .ref a), (2, .int (zI v124)), (3, .int (zI v204)), (4, .int (zI v208))] 175 [] := by
                    intro m_c175_36
                    induction m_c175_36 with
                    | zero => intro v208 s37 hm_c175_36 fA38 hS_s37 hF_s37; exfalso; omega
                    | succ m_c175_36 ih_c175_36 => 
                      intro v208 s37 hm_c175_36 fA38 hS_s37 hF_s37
                      refine j_iload hx 3 dX12_book_175 rfl ?_
                      refine j_iconst hx dX12_book_177 ?_
                      refine j_iload_n hx 1 dX12_book_178 rfl ?_
                      refine j_imul hx (r := 2 * v124) dX12_book_179 rfl ?_
                      refine j_icmp_ge hx 203 dX12_book_180 rfl (by omega) (by omega) (fun h209 => ?_) (fun h209 => ?_)
                      · skip
                        refine j_iload_n hx 2 dX12_book_203 rfl ?_
                        have g210 : s37 a 21 = s34 a 21 := (by rw [(zFr_g hF_s37 ha (by decide)), e_s35, zU_at (Or.inr (by decide))])
                        have f211 := zf hS_s34 ha (k := 21) rfl
                        have g212 : s37 a 22 = s34 a 22 := (by rw [(zFr_g hF_s37 ha (by decide)), e_s35, zU_at (Or.inr (by decide))])
                        have f213 := zf hS_s34 ha (k := 22) rfl
                        have g214 : s37 a 23 = s34 a 23 := (by rw [(zFr_g hF_s37 ha (by decide)), e_s35, zU_at (Or.inr (by decide))])
                        have f215 := zf hS_s34 ha (k := 23) rfl
                        have g216 : s37 a 24 = s34 a 24 := (by rw [(zFr_g hF_s37 ha (by decide)), e_s35, zU_at (Or.inr (by decide))])
                        have f217 := zf hS_s34 ha (k := 24) rfl
                        have g218 : s37 a 38 = s34 a 38 := (by rw [(zFr_g hF_s37 ha (by decide)), e_s35, zU_at (Or.inr (by decide))])
                        have f219 := zf hS_s34 ha (k := 38) rfl
                        have g220 : s37 a 51 = s34 a 51 := (by rw [(zFr_g hF_s37 ha (by decide)), e_s35, zU_at (Or.inr (by decide))])
                        have f221 := zf hS_s34 ha (k := 51) rfl
                        have g222 : s37 a 52 = s34 a 52 := (by rw [(zFr_g hF_s37 ha (by decide)), e_s35, zU_at (Or.inr (by decide))])
                        have f223 := zf hS_s34 ha (k := 52) rfl
                        exact j_iret hx hq rfl (by decide) (by decide) dX12_book_204 ⟨v204, rfl, rfl, hS_s37, (zFr_t (zFr_u (zFr_t (zFr_t (zFr_t (zFr_t (zFr_u zFr_rf e_s1 ha (by decide)) hF_s5 (by decide)) hF_s7 (by decide)) hF_s33 (by decide)) hF_s34 (by decide)) e_s35 ha (by decide)) hF_s37 (by decide)), ⟨(by omega), by omega, by omega, by omega, by omega, by omega, by omega, by omega⟩⟩
                      · skip
                        refine j_aload_n hx 0 dX12_book_183 rfl ?_
                        refine g13_40 hx hG ha kf_RX12_92 dX12_book_184 ?_
                        refine j_iload hx 3 dX12_book_187 rfl ?_
                        refine j_aload_n hx 0 dX12_book_189 rfl ?_
                        refine g13_39 hx hG ha kf_RX12_89 dX12_book_190 ?_
                        refine j_iload hx 3 dX12_book_193 rfl ?_
                        have f224 := zaI (j := (v208).toNat) hS_s7 (zr (k := 39) (t2 := 96) hG ha rfl) rfl (zlen hG (zr (k := 39) (t2 := 96) hG ha rfl) (n := 24) rfl rfl) (show 0 ≤ v208 by omega) (by omega) rfl
                        refine j_iald hx hG (zr (k := 39) (t2 := 96) hG ha rfl) (by decide) rfl (zlen hG (zr (k := 39) (t2 := 96) hG ha rfl) (n := 24) rfl rfl) (by omega) (by omega) (j := (v208).toNat) rfl (v := (s7 (gP G a 39) (v208).toNat)) (by rw [(zFr_g hF_s37 (zr (k := 39) (t2 := 96) hG ha rfl) (by decide)), e_s35, zU_at (Or.inl (zne ha (zr (k := 39) (t2 := 96) hG ha rfl) (by decide))), (zFr_g hF_s34 (zr (k := 39) (t2 := 96) hG ha rfl) (by decide)), (zFr_g hF_s33 (zr (k := 39) (t2 := 96) hG ha rfl) (by decide))]) dX12_book_195 ?_
                        refine j_iast hx hG (zr (k := 40) (t2 := 97) hG ha rfl) (by decide) rfl (zlen hG (zr (k := 40) (t2 := 97) hG ha rfl) (n := 24) rfl rfl) (by omega) (by omega) (j := (v208).toNat) rfl dX12_book_196 ?_
                        obtain ⟨s41, e_s41⟩ : ∃ z, z = zU s37 (gP G a 40) (v208).toNat ((s7 (gP G a 39) (v208).toNat)) := ⟨_, rfl⟩
                        rw [← e_s41]
                        have hS_s41 : zSK G s41 := by rw [e_s41]; exact zSK_A hS_s37 (zr (k := 40) (t2 := 97) hG ha rfl) rfl rfl rfl (by omega)
                        refine j_iinc hx 3 [(4, .int (zI (v208 + 1))), (0, .ref a), (2, .int (zI v124)), (3, .int (zI v204))] dX12_book_197 rfl (by omega) (by decide) rfl ?_
                        refine j_goto hx 175 dX12_book_200 rfl ?_
                        exact j_sub [1, 2, 3, 0] [(0, .ref a), (2, .int (zI v124)), (3, .int (zI v204)), (4, .int (zI (v208 + 1)))] rfl (ih_c175_36 (v208 + 1) s41 (by omega) (by omega) hS_s41 (zFr_u (zFr_t zFr_rf hF_s37 (by decide)) e_s41 (zr (k := 40) (t2 := 97) hG ha rfl) (by decide)))
                  exact j_sub [2, 3, 1, 0] [(0, .ref a), (2, .int (zI v124)), (3, .int (zI v204)), (4, .int (zI 0))] rfl (c175_36 (2147483648 * 4) 0 s35 (by omega) (by omega) hS_s35 zFr_rf)
                · skip
                  refine j_iload_n hx 0 dX12_book_165 rfl ?_
                  have f225 := zf hS_s34 ha (k := 21) rfl
                  have f226 := zf hS_s34 ha (k := 22) rfl
                  have f227 := zf hS_s34 ha (k := 23) rfl
                  have f228 := zf hS_s34 ha (k := 24) rfl
                  have f229 := zf hS_s34 ha (k := 38) rfl
                  have f230 := zf hS_s34 ha (k := 51) rfl
                  have f231 := zf hS_s34 ha (k := 52) rfl
                  exact j_iret hx hq rfl (by decide) (by decide) dX12_book_166 ⟨v204, rfl, rfl, hS_s34, (zFr_t (zFr_t (zFr_t (zFr_t (zFr_u zFr_rf e_s1 ha (by decide)) hF_s5 (by decide)) hF_s7 (by decide)) hF_s33 (by decide)) hF_s34 (by decide)), ⟨(by omega), by omega, by omega, by omega, by omega, by omega, by omega, by omega⟩⟩
              · skip
                refine j_aload_n hx 0 dX12_book_60 rfl ?_
                have f232 := zf hS_s33 ha (k := 4) rfl
                refine g13_4 hx hG ha kf_RX12_143 rfl dX12_book_61 ?_
                refine j_istore_n hx [(3, .int (zI ((s33 a 4)))), (0, .ref a), (2, .int (zI v124))] dX12_book_64 (by decide) rfl ?_
                refine j_aload_n hx 1 dX12_book_65 rfl ?_
                refine j_iconst hx dX12_book_66 ?_
                refine j_sipush hx dX12_book_67 rfl ?_
                have f233 := zf hS_s33 ha (k := 3) rfl
                have f234 := zf hS_s33 ha (k := 5) rfl
                have f235 := zf hS_s33 ha (k := 0) rfl
                have f236 := zf hS_s33 ha (k := 7) rfl
                have f237 := zf hS_s33 ha (k := 21) rfl
                have f238 := zf hS_s33 ha (k := 22) rfl
                have f239 := zf hS_s33 ha (k := 23) rfl
                have f240 := zf hS_s33 ha (k := 24) rfl
                have f241 := zf hS_s33 ha (k := 38) rfl
                have f242 := zf hS_s33 ha (k := 51) rfl
                have f243 := zf hS_s33 ha (k := 52) rfl
                refine j_callV hx hG (c_X12_readNumber hst a 0 9999) lk_RX12_219 ha (by decide) rfl rfl rfl rfl [.int (zI 0), .int (zI 9999)] ⟨rfl, hG, hS_s33, ha, (by omega), (by omega), (by omega)⟩ rfl rfl ⟨by decide, by decide⟩ ⟨by decide, by decide⟩ (k2 := 0) (n2 := 0) rfl rfl (Nat.le_of_ble_eq_true rfl) dX12_book_70 (kIM (fun v244 s42 hS_s42 hF_s42 q245 => ?_))
                refine j_istore hx [(4, .int (zI v244)), (3, .int (zI ((s33 a 4)))), (0, .ref a), (2, .int (zI v124))] dX12_book_73 (by decide) rfl ?_
                refine j_aload_n hx 2 dX12_book_75 rfl ?_
                refine j_callV hx hG (c_X12_fine hst a) lk_RX12_166 ha (by decide) rfl rfl rfl rfl [] ⟨rfl, hG, hS_s42, ha⟩ rfl rfl ⟨by decide, by decide⟩ ⟨by decide, by decide⟩ (k2 := 0) (n2 := 0) rfl rfl (Nat.le_of_ble_eq_true rfl) dX12_book_76 (kIP (fun v246 q247 => ?_))
                refine j_if_eq hx 94 dX12_book_79 rfl (by omega) (fun h248 => ?_) (fun h248 => ?_)
                · skip
                  refine j_aload_n hx 2 dX12_book_94 rfl ?_
                  refine j_iconst hx dX12_book_95 ?_
                  refine j_aload_n hx 2 dX12_book_96 rfl ?_
                  have f249 := zf hS_s42 ha (k := 24) rfl
                  refine g13_24 hx hG ha kf_RX12_189 rfl dX12_book_97 ?_
                  refine j_iconst hx dX12_book_100 ?_
                  refine j_isub hx (r := (s42 a 24) - 1) dX12_book_101 (by omega) ?_
                  have f250 := zf hS_s42 ha (k := 4) rfl
                  have f251 := zf hS_s42 ha (k := 3) rfl
                  have f252 := zf hS_s42 ha (k := 5) rfl
                  have f253 := zf hS_s42 ha (k := 0) rfl
                  have f254 := zf hS_s42 ha (k := 7) rfl
                  have f255 := zf hS_s42 ha (k := 21) rfl
                  have f256 := zf hS_s42 ha (k := 22) rfl
                  have f257 := zf hS_s42 ha (k := 23) rfl
                  have f258 := zf hS_s42 ha (k := 38) rfl
                  have f259 := zf hS_s42 ha (k := 51) rfl
                  have f260 := zf hS_s42 ha (k := 52) rfl
                  refine j_callV hx hG (c_X12_readNumber_p hst a 0 ((s42 a 24) - 1)) lk_RX12_219 ha (by decide) rfl rfl rfl rfl [.int (zI 0), .int (zI ((s42 a 24) - 1))] ⟨rfl, hG, hS_s42, ha, (by omega), (by omega), (by omega)⟩ rfl rfl ⟨by decide, by decide⟩ ⟨by decide, by decide⟩ (k2 := 0) (n2 := 0) rfl rfl (Nat.le_of_ble_eq_true rfl) dX12_book_102 (kIM (fun v261 s43 hS_s43 hF_s43 q262 => ?_))
                  refine j_istore hx [(5, .int (zI v261)), (4, .int (zI v244)), (3, .int (zI ((s33 a 4)))), (0, .ref a), (2, .int (zI v124))] dX12_book_105 (by decide) rfl ?_
                  refine j_aload_n hx 3 dX12_book_107 rfl ?_
                  refine j_bipush hx dX12_book_108 rfl ?_
                  have f263 := zf hS_s43 ha (k := 4) rfl
                  have f264 := zf hS_s43 ha (k := 3) rfl
                  have f265 := zf hS_s43 ha (k := 5) rfl
                  have f266 := zf hS_s43 ha (k := 0) rfl
                  have f267 := zf hS_s43 ha (k := 7) rfl
                  have f268 := zf hS_s43 ha (k := 21) rfl
                  have f269 := zf hS_s43 ha (k := 22) rfl
                  have f270 := zf hS_s43 ha (k := 23) rfl
                  have f271 := zf hS_s43 ha (k := 24) rfl
                  have f272 := zf hS_s43 ha (k := 38) rfl
                  have f273 := zf hS_s43 ha (k := 51) rfl
                  have f274 := zf hS_s43 ha (k := 52) rfl
                  refine j_callV hx hG (c_X12_sign hst a 59) lk_RX12_262 ha (by decide) rfl rfl rfl rfl [.int (zI 59)] ⟨rfl, hG, hS_s43, ha, (by omega), (by omega)⟩ rfl rfl ⟨by decide, by decide⟩ ⟨by decide, by decide⟩ (k2 := 0) (n2 := 0) rfl rfl (Nat.le_of_ble_eq_true rfl) dX12_book_110 (kVM (fun s44 hS_s44 hF_s44 q276 => ?_))
                  refine j_aload_n hx 3 dX12_book_113 rfl ?_
                  refine j_callV hx hG (c_X12_fine hst a) lk_RX12_166 ha (by decide) rfl rfl rfl rfl [] ⟨rfl, hG, hS_s44, ha⟩ rfl rfl ⟨by decide, by decide⟩ ⟨by decide, by decide⟩ (k2 := 0) (n2 := 0) rfl rfl (Nat.le_of_ble_eq_true rfl) dX12_book_114 (kIP (fun v277 q278 => ?_))
                  refine j_if_ne hx 123 dX12_book_117 rfl (by omega) (fun h279 => ?_) (fun h279 => ?_)
                  · skip
                    refine j_aload_n hx 3 dX12_book_123 rfl ?_
                    refine g13_39 hx hG ha kf_RX12_89 dX12_book_124 ?_
                    refine j_iconst hx dX12_book_127 ?_
                    refine j_iload_n hx 4 dX12_book_128 rfl ?_
                    refine j_imul hx (r := 2 * v124) dX12_book_129 rfl ?_
                    refine j_iload hx 1 dX12_book_130 rfl ?_
                    refine j_iast hx hG (zr (k := 39) (t2 := 96) hG ha rfl) (by decide) rfl (zlen hG (zr (k := 39) (t2 := 96) hG ha rfl) (n := 24) rfl rfl) (by omega) (by omega) (j := (2 * v124).toNat) rfl dX12_book_132 ?_
                    obtain ⟨s45, e_s45⟩ : ∃ z, z = zU s44 (gP G a 39) (2 * v124).toNat v244 := ⟨_, rfl⟩
                    rw [← e_s45]
                    have hS_s45 : zSK G s45 := by rw [e_s45]; exact zSK_A hS_s44 (zr (k := 39) (t2 := 96) hG ha rfl) rfl rfl rfl (by omega)
                    refine j_aload_n hx 3 dX12_book_133 rfl ?_
                    refine g13_39 hx hG ha kf_RX12_89 dX12_book_134 ?_
                    refine j_iconst hx dX12_book_137 ?_
                    refine j_iload_n hx 4 dX12_book_138 rfl ?_
                    refine j_imul hx (r := 2 * v124) dX12_book_139 rfl ?_
                    refine j_iconst hx dX12_book_140 ?_
                    refine j_iadd hx (r := 2 * v124 + 1) dX12_book_141 (by omega) ?_
                    refine j_iload hx 0 dX12_book_142 rfl ?_
                    refine j_iast hx hG (zr (k := 39) (t2 := 96) hG ha rfl) (by decide) rfl (zlen hG (zr (k := 39) (t2 := 96) hG ha rfl) (n := 24) rfl rfl) (by omega) (by omega) (j := (2 * v124 + 1).toNat) rfl dX12_book_144 ?_
                    obtain ⟨s46, e_s46⟩ : ∃ z, z = zU s45 (gP G a 39) (2 * v124 + 1).toNat v261 := ⟨_, rfl⟩
                    rw [← e_s46]
                    have hS_s46 : zSK G s46 := by rw [e_s46]; exact zSK_A hS_s45 (zr (k := 39) (t2 := 96) hG ha rfl) rfl rfl rfl (by omega)
                    refine j_iinc hx 4 [(2, .int (zI (v124 + 1))), (5, .int (zI v261)), (4, .int (zI v244)), (3, .int (zI ((s33 a 4)))), (0, .ref a)] dX12_book_145 rfl (by omega) (by decide) rfl ?_
                    refine j_goto hx 46 dX12_book_148 rfl ?_
                    have g280 : s46 a 4 = s44 a 4 := (by rw [e_s46, zU_at (Or.inl (zne (zr (k := 39) (t2 := 96) hG ha rfl) ha (by decide))), e_s45, zU_at (Or.inl (zne (zr (k := 39) (t2 := 96) hG ha rfl) ha (by decide)))])
                    have f281 := zf hS_s44 ha (k := 4) rfl
                    have g282 : s46 a 5 = s44 a 5 := (by rw [e_s46, zU_at (Or.inl (zne (zr (k := 39) (t2 := 96) hG ha rfl) ha (by decide))), e_s45, zU_at (Or.inl (zne (zr (k := 39) (t2 := 96) hG ha rfl) ha (by decide)))])
                    have f283 := zf hS_s44 ha (k := 5) rfl
                    have g284 : s46 a 0 = s44 a 0 := (by rw [e_s46, zU_at (Or.inl (zne (zr (k := 39) (t2 := 96) hG ha rfl) ha (by decide))), e_s45, zU_at (Or.inl (zne (zr (k := 39) (t2 := 96) hG ha rfl) ha (by decide)))])
                    have f285 := zf hS_s44 ha (k := 0) rfl
                    have g286 : s46 a 3 = s44 a 3 := (by rw [e_s46, zU_at (Or.inl (zne (zr (k := 39) (t2 := 96) hG ha rfl) ha (by decide))), e_s45, zU_at (Or.inl (zne (zr (k := 39) (t2 := 96) hG ha rfl) ha (by decide)))])
                    have f287 := zf hS_s44 ha (k := 3) rfl
                    have g288 : s46 a 7 = s44 a 7 := (by rw [e_s46, zU_at (Or.inl (zne (zr (k := 39) (t2 := 96) hG ha rfl) ha (by decide))), e_s45, zU_at (Or.inl (zne (zr (k := 39) (t2 := 96) hG ha rfl) ha (by decide)))])
                    have f289 := zf hS_s44 ha (k := 7) rfl
                    have g290 : s46 a 21 = s44 a 21 := (by rw [e_s46, zU_at (Or.inl (zne (zr (k := 39) (t2 := 96) hG ha rfl) ha (by decide))), e_s45, zU_at (Or.inl (zne (zr (k := 39) (t2 := 96) hG ha rfl) ha (by decide)))])
                    have f291 := zf hS_s44 ha (k := 21) rfl
                    have g292 : s46 a 22 = s44 a 22 := (by rw [e_s46, zU_at (Or.inl (zne (zr (k := 39) (t2 := 96) hG ha rfl) ha (by decide))), e_s45, zU_at (Or.inl (zne (zr (k := 39) (t2 := 96) hG ha rfl) ha (by decide)))])
                    have f293 := zf hS_s44 ha (k := 22) rfl
                    have g294 : s46 a 23 = s44 a 23 := (by rw [e_s46, zU_at (Or.inl (zne (zr (k := 39) (t2 := 96) hG ha rfl) ha (by decide))), e_s45, zU_at (Or.inl (zne (zr (k := 39) (t2 := 96) hG ha rfl) ha (by decide)))])
                    have f295 := zf hS_s44 ha (k := 23) rfl
                    have g296 : s46 a 24 = s44 a 24 := (by rw [e_s46, zU_at (Or.inl (zne (zr (k := 39) (t2 := 96) hG ha rfl) ha (by decide))), e_s45, zU_at (Or.inl (zne (zr (k := 39) (t2 := 96) hG ha rfl) ha (by decide)))])
                    have f297 := zf hS_s44 ha (k := 24) rfl
                    have g298 : s46 a 38 = s44 a 38 := (by rw [e_s46, zU_at (Or.inl (zne (zr (k := 39) (t2 := 96) hG ha rfl) ha (by decide))), e_s45, zU_at (Or.inl (zne (zr (k := 39) (t2 := 96) hG ha rfl) ha (by decide)))])
                    have f299 := zf hS_s44 ha (k := 38) rfl
                    have g300 : s46 a 51 = s44 a 51 := (by rw [e_s46, zU_at (Or.inl (zne (zr (k := 39) (t2 := 96) hG ha rfl) ha (by decide))), e_s45, zU_at (Or.inl (zne (zr (k := 39) (t2 := 96) hG ha rfl) ha (by decide)))])
                    have f301 := zf hS_s44 ha (k := 51) rfl
                    have g302 : s46 a 52 = s44 a 52 := (by rw [e_s46, zU_at (Or.inl (zne (zr (k := 39) (t2 := 96) hG ha rfl) ha (by decide))), e_s45, zU_at (Or.inl (zne (zr (k := 39) (t2 := 96) hG ha rfl) ha (by decide)))])
                    have f303 := zf hS_s44 ha (k := 52) rfl
                    exact j_sub [4, 0] [(0, .ref a), (2, .int (zI (v124 + 1)))] rfl (ih_c46_6 (v124 + 1) s46 (by omega) (by omega) hS_s46 (zFr_u (zFr_u (zFr_t (zFr_t (zFr_t (zFr_t (zFr_t zFr_rf hF_s7 (by decide)) hF_s33 (by decide)) hF_s42 (by decide)) hF_s43 (by decide)) hF_s44 (by decide)) e_s45 (zr (k := 39) (t2 := 96) hG ha rfl) (by decide)) e_s46 (zr (k := 39) (t2 := 96) hG ha rfl) (by decide)) (by omega) (by omega) (by omega) (by omega) (by omega) (by omega) (by omega) (by omega) (by omega) (by omega) (by omega) (by omega) (by omega) (by omega))
                  · skip
                    refine j_goto hx 151 dX12_book_120 rfl ?_
                    refine j_aload_n hx 3 dX12_book_151 rfl ?_
                    refine j_iload_n hx 4 dX12_book_152 rfl ?_
                    have f304 := zf hS_s44 ha (k := 0) rfl
                    have f305 := zf hS_s44 ha (k := 3) rfl
                    have f306 := zf hS_s44 ha (k := 4) rfl
                    have f307 := zf hS_s44 ha (k := 5) rfl
                    have f308 := zf hS_s44 ha (k := 7) rfl
                    have f309 := zf hS_s44 ha (k := 21) rfl
                    have f310 := zf hS_s44 ha (k := 22) rfl
                    have f311 := zf hS_s44 ha (k := 23) rfl
                    have f312 := zf hS_s44 ha (k := 24) rfl
                    have f313 := zf hS_s44 ha (k := 38) rfl
                    have f314 := zf hS_s44 ha (k := 51) rfl
                    have f315 := zf hS_s44 ha (k := 52) rfl
                    refine j_callV hx hG (c_X12_result hst a v124) lk_RX12_265 ha (by decide) rfl rfl rfl rfl [.int (zI v124)] ⟨rfl, hG, hS_s44, ha, (by omega)⟩ rfl rfl ⟨by decide, by decide⟩ ⟨by decide, by decide⟩ (k2 := 0) (n2 := 0) rfl rfl (Nat.le_of_ble_eq_true rfl) dX12_book_153 (kIM (fun v316 s47 hS_s47 hF_s47 q317 => ?_))
                    refine j_istore_n hx [(3, .int (zI v316)), (5, .int (zI v261)), (4, .int (zI v244)), (0, .ref a), (2, .int (zI v124))] dX12_book_156 (by decide) rfl ?_
                    refine j_aload_n hx 3 dX12_book_157 rfl ?_
                    have f318 := zf hS_s47 ha (k := 5) rfl
                    refine g13_5 hx hG ha kf_RX12_137 rfl dX12_book_158 ?_
                    refine j_iconst hx dX12_book_161 ?_
                    refine j_icmp_eq hx 167 dX12_book_162 rfl (by omega) ⟨by decide, by decide⟩ (fun h319 => ?_) (fun h319 => ?_)
                    · skip
                      refine j_aload_n hx 3 dX12_book_167 rfl ?_
                      refine j_iload_n hx 4 dX12_book_168 rfl ?_
                      refine p13_41 hx hG ha kf_RX12_198 dX12_book_169 ?_
                      obtain ⟨s48, e_s48⟩ : ∃ z, z = zU s47 a 41 v124 := ⟨_, rfl⟩
                      rw [← e_s48]
                      have hS_s48 : zSK G s48 := by rw [e_s48]; exact zSK_F hS_s47 ha rfl rfl rfl (by omega)
                      refine j_iconst hx dX12_book_172 ?_
                      refine j_istore hx [(4, .int (zI 0)), (3, .int (zI v316)), (5, .int (zI v261)), (0, .ref a), (2, .int (zI v124))] dX12_book_173 (by decide) rfl ?_
                      have c175_49 : ∀ (m_c175_49 : Nat) (v320 : Int) (s50 : zS), 2147483648 - v320 < m_c175_49 → (0 ≤ v320 ∧ v320 ≤ 2147483647) → (zSK G s50) → (zFr [97] G s48 s50) → JJ X E 6 G s50 0 0 [(0, .ref a), (2, .int (zI v124)), (3, .int (zI v316)), (4, .int (zI v320))] 175 [] := by
                        intro m_c175_49
                        induction m_c175_49 with
                        | zero => intro v320 s50 hm_c175_49 fA51 hS_s50 hF_s50; exfalso; omega
                        | succ m_c175_49 ih_c175_49 => 
                          intro v320 s50 hm_c175_49 fA51 hS_s50 hF_s50
                          refine j_iload hx 3 dX12_book_175 rfl ?_
                          refine j_iconst hx dX12_book_177 ?_
                          refine j_iload_n hx 1 dX12_book_178 rfl ?_
                          refine j_imul hx (r := 2 * v124) dX12_book_179 rfl ?_
                          refine j_icmp_ge hx 203 dX12_book_180 rfl (by omega) (by omega) (fun h321 => ?_) (fun h321 => ?_)
                          · skip
                            refine j_iload_n hx 2 dX12_book_203 rfl ?_
                            have g322 : s50 a 21 = s47 a 21 := (by rw [(zFr_g hF_s50 ha (by decide)), e_s48, zU_at (Or.inr (by decide))])
                            have f323 := zf hS_s47 ha (k := 21) rfl
                            have g324 : s50 a 22 = s47 a 22 := (by rw [(zFr_g hF_s50 ha (by decide)), e_s48, zU_at (Or.inr (by decide))])
                            have f325 := zf hS_s47 ha (k := 22) rfl
                            have g326 : s50 a 23 = s47 a 23 := (by rw [(zFr_g hF_s50 ha (by decide)), e_s48, zU_at (Or.inr (by decide))])
                            have f327 := zf hS_s47 ha (k := 23) rfl
                            have g328 : s50 a 24 = s47 a 24 := (by rw [(zFr_g hF_s50 ha (by decide)), e_s48, zU_at (Or.inr (by decide))])
                            have f329 := zf hS_s47 ha (k := 24) rfl
                            have g330 : s50 a 38 = s47 a 38 := (by rw [(zFr_g hF_s50 ha (by decide)), e_s48, zU_at (Or.inr (by decide))])
                            have f331 := zf hS_s47 ha (k := 38) rfl
                            have g332 : s50 a 51 = s47 a 51 := (by rw [(zFr_g hF_s50 ha (by decide)), e_s48, zU_at (Or.inr (by decide))])
                            have f333 := zf hS_s47 ha (k := 51) rfl
                            have g334 : s50 a 52 = s47 a 52 := (by rw [(zFr_g hF_s50 ha (by decide)), e_s48, zU_at (Or.inr (by decide))])
                            have f335 := zf hS_s47 ha (k := 52) rfl
                            exact j_iret hx hq rfl (by decide) (by decide) dX12_book_204 ⟨v316, rfl, rfl, hS_s50, (zFr_t (zFr_u (zFr_t (zFr_t (zFr_t (zFr_t (zFr_t (zFr_t (zFr_t (zFr_u zFr_rf e_s1 ha (by decide)) hF_s5 (by decide)) hF_s7 (by decide)) hF_s33 (by decide)) hF_s42 (by decide)) hF_s43 (by decide)) hF_s44 (by decide)) hF_s47 (by decide)) e_s48 ha (by decide)) hF_s50 (by decide)), ⟨(by omega), by omega, by omega, by omega, by omega, by omega, by omega, by omega⟩⟩
                          · skip
                            refine j_aload_n hx 0 dX12_book_183 rfl ?_
                            refine g13_40 hx hG ha kf_RX12_92 dX12_book_184 ?_
                            refine j_iload hx 3 dX12_book_187 rfl ?_
                            refine j_aload_n hx 0 dX12_book_189 rfl ?_
                            refine g13_39 hx hG ha kf_RX12_89 dX12_book_190 ?_
                            refine j_iload hx 3 dX12_book_193 rfl ?_
                            have f336 := zaI (j := (v320).toNat) hS_s7 (zr (k := 39) (t2 := 96) hG ha rfl) rfl (zlen hG (zr (k := 39) (t2 := 96) hG ha rfl) (n := 24) rfl rfl) (show 0 ≤ v320 by omega) (by omega) rfl
                            refine j_iald hx hG (zr (k := 39) (t2 := 96) hG ha rfl) (by decide) rfl (zlen hG (zr (k := 39) (t2 := 96) hG ha rfl) (n := 24) rfl rfl) (by omega) (by omega) (j := (v320).toNat) rfl (v := (s7 (gP G a 39) (v320).toNat)) (by rw [(zFr_g hF_s50 (zr (k := 39) (t2 := 96) hG ha rfl) (by decide)), e_s48, zU_at (Or.inl (zne ha (zr (k := 39) (t2 := 96) hG ha rfl) (by decide))), (zFr_g hF_s47 (zr (k := 39) (t2 := 96) hG ha rfl) (by decide)), (zFr_g hF_s44 (zr (k := 39) (t2 := 96) hG ha rfl) (by decide)), (zFr_g hF_s43 (zr (k := 39) (t2 := 96) hG ha rfl) (by decide)), (zFr_g hF_s42 (zr (k := 39) (t2 := 96) hG ha rfl) (by decide)), (zFr_g hF_s33 (zr (k := 39) (t2 := 96) hG ha rfl) (by decide))]) dX12_book_195 ?_
                            refine j_iast hx hG (zr (k := 40) (t2 := 97) hG ha rfl) (by decide) rfl (zlen hG (zr (k := 40) (t2 := 97) hG ha rfl) (n := 24) rfl rfl) (by omega) (by omega) (j := (v320).toNat) rfl dX12_book_196 ?_
                            obtain ⟨s54, e_s54⟩ : ∃ z, z = zU s50 (gP G a 40) (v320).toNat ((s7 (gP G a 39) (v320).toNat)) := ⟨_, rfl⟩
                            rw [← e_s54]
                            have hS_s54 : zSK G s54 := by rw [e_s54]; exact zSK_A hS_s50 (zr (k := 40) (t2 := 97) hG ha rfl) rfl rfl rfl (by omega)
                            refine j_iinc hx 3 [(4, .int (zI (v320 + 1))), (0, .ref a), (2, .int (zI v124)), (3, .int (zI v316))] dX12_book_197 rfl (by omega) (by decide) rfl ?_
                            refine j_goto hx 175 dX12_book_200 rfl ?_
                            exact j_sub [1, 2, 3, 0] [(0, .ref a), (2, .int (zI v124)), (3, .int (zI v316)), (4, .int (zI (v320 + 1)))] rfl (ih_c175_49 (v320 + 1) s54 (by omega) (by omega) hS_s54 (zFr_u (zFr_t zFr_rf hF_s50 (by decide)) e_s54 (zr (k := 40) (t2 := 97) hG ha rfl) (by decide)))
                      exact j_sub [3, 4, 1, 0] [(0, .ref a), (2, .int (zI v124)), (3, .int (zI v316)), (4, .int (zI 0))] rfl (c175_49 (2147483648 * 4) 0 s48 (by omega) (by omega) hS_s48 zFr_rf)
                    · skip
                      refine j_iload_n hx 0 dX12_book_165 rfl ?_
                      have f337 := zf hS_s47 ha (k := 21) rfl
                      have f338 := zf hS_s47 ha (k := 22) rfl
                      have f339 := zf hS_s47 ha (k := 23) rfl
                      have f340 := zf hS_s47 ha (k := 24) rfl
                      have f341 := zf hS_s47 ha (k := 38) rfl
                      have f342 := zf hS_s47 ha (k := 51) rfl
                      have f343 := zf hS_s47 ha (k := 52) rfl
                      exact j_iret hx hq rfl (by decide) (by decide) dX12_book_166 ⟨v316, rfl, rfl, hS_s47, (zFr_t (zFr_t (zFr_t (zFr_t (zFr_t (zFr_t (zFr_t (zFr_u zFr_rf e_s1 ha (by decide)) hF_s5 (by decide)) hF_s7 (by decide)) hF_s33 (by decide)) hF_s42 (by decide)) hF_s43 (by decide)) hF_s44 (by decide)) hF_s47 (by decide)), ⟨(by omega), by omega, by omega, by omega, by omega, by omega, by omega, by omega⟩⟩
                · skip
                  refine j_iload_n hx 3 dX12_book_82 rfl ?_
                  refine j_bipush hx dX12_book_83 rfl ?_
                  refine j_icmp_ne hx 94 dX12_book_85 rfl (by omega) ⟨by decide, by decide⟩ (fun h344 => ?_) (fun h344 => ?_)
                  · skip
                    refine j_aload_n hx 2 dX12_book_94 rfl ?_
                    refine j_iconst hx dX12_book_95 ?_
                    refine j_aload_n hx 2 dX12_book_96 rfl ?_
                    have f345 := zf hS_s42 ha (k := 24) rfl
                    refine g13_24 hx hG ha kf_RX12_189 rfl dX12_book_97 ?_
                    refine j_iconst hx dX12_book_100 ?_
                    refine j_isub hx (r := (s42 a 24) - 1) dX12_book_101 (by omega) ?_
                    have f346 := zf hS_s42 ha (k := 4) rfl
                    have f347 := zf hS_s42 ha (k := 3) rfl
                    have f348 := zf hS_s42 ha (k := 5) rfl
                    have f349 := zf hS_s42 ha (k := 0) rfl
                    have f350 := zf hS_s42 ha (k := 7) rfl
                    have f351 := zf hS_s42 ha (k := 21) rfl
                    have f352 := zf hS_s42 ha (k := 22) rfl
                    have f353 := zf hS_s42 ha (k := 23) rfl
                    have f354 := zf hS_s42 ha (k := 38) rfl
                    have f355 := zf hS_s42 ha (k := 51) rfl
                    have f356 := zf hS_s42 ha (k := 52) rfl
                    refine j_callV hx hG (c_X12_readNumber_p hst a 0 ((s42 a 24) - 1)) lk_RX12_219 ha (by decide) rfl rfl rfl rfl [.int (zI 0), .int (zI ((s42 a 24) - 1))] ⟨rfl, hG, hS_s42, ha, (by omega), (by omega), (by omega)⟩ rfl rfl ⟨by decide, by decide⟩ ⟨by decide, by decide⟩ (k2 := 0) (n2 := 0) rfl rfl (Nat.le_of_ble_eq_true rfl) dX12_book_102 (kIM (fun v357 s55 hS_s55 hF_s55 q358 => ?_))
                    refine j_istore hx [(5, .int (zI v357)), (4, .int (zI v244)), (3, .int (zI ((s33 a 4)))), (0, .ref a), (2, .int (zI v124))] dX12_book_105 (by decide) rfl ?_
                    refine j_aload_n hx 3 dX12_book_107 rfl ?_
                    refine j_bipush hx dX12_book_108 rfl ?_
                    have f359 := zf hS_s55 ha (k := 4) rfl
                    have f360 := zf hS_s55 ha (k := 3) rfl
                    have f361 := zf hS_s55 ha (k := 5) rfl
                    have f362 := zf hS_s55 ha (k := 0) rfl
                    have f363 := zf hS_s55 ha (k := 7) rfl
                    have f364 := zf hS_s55 ha (k := 21) rfl
                    have f365 := zf hS_s55 ha (k := 22) rfl
                    have f366 := zf hS_s55 ha (k := 23) rfl
                    have f367 := zf hS_s55 ha (k := 24) rfl
                    have f368 := zf hS_s55 ha (k := 38) rfl
                    have f369 := zf hS_s55 ha (k := 51) rfl
                    have f370 := zf hS_s55 ha (k := 52) rfl
                    refine j_callV hx hG (c_X12_sign hst a 59) lk_RX12_262 ha (by decide) rfl rfl rfl rfl [.int (zI 59)] ⟨rfl, hG, hS_s55, ha, (by omega), (by omega)⟩ rfl rfl ⟨by decide, by decide⟩ ⟨by decide, by decide⟩ (k2 := 0) (n2 := 0) rfl rfl (Nat.le_of_ble_eq_true rfl) dX12_book_110 (kVM (fun s56 hS_s56 hF_s56 q372 => ?_))
                    refine j_aload_n hx 3 dX12_book_113 rfl ?_
                    refine j_callV hx hG (c_X12_fine hst a) lk_RX12_166 ha (by decide) rfl rfl rfl rfl [] ⟨rfl, hG, hS_s56, ha⟩ rfl rfl ⟨by decide, by decide⟩ ⟨by decide, by decide⟩ (k2 := 0) (n2 := 0) rfl rfl (Nat.le_of_ble_eq_true rfl) dX12_book_114 (kIP (fun v373 q374 => ?_))
                    refine j_if_ne hx 123 dX12_book_117 rfl (by omega) (fun h375 => ?_) (fun h375 => ?_)
                    · skip
                      refine j_aload_n hx 3 dX12_book_123 rfl ?_
                      refine g13_39 hx hG ha kf_RX12_89 dX12_book_124 ?_
                      refine j_iconst hx dX12_book_127 ?_
                      refine j_iload_n hx 4 dX12_book_128 rfl ?_
                      refine j_imul hx (r := 2 * v124) dX12_book_129 rfl ?_
                      refine j_iload hx 1 dX12_book_130 rfl ?_
                      refine j_iast hx hG (zr (k := 39) (t2 := 96) hG ha rfl) (by decide) rfl (zlen hG (zr (k := 39) (t2 := 96) hG ha rfl) (n := 24) rfl rfl) (by omega) (by omega) (j := (2 * v124).toNat) rfl dX12_book_132 ?_
                      obtain ⟨s57, e_s57⟩ : ∃ z, z = zU s56 (gP G a 39) (2 * v124).toNat v244 := ⟨_, rfl⟩
                      rw [← e_s57]
                      have hS_s57 : zSK G s57 := by rw [e_s57]; exact zSK_A hS_s56 (zr (k := 39) (t2 := 96) hG ha rfl) rfl rfl rfl (by omega)
                      refine j_aload_n hx 3 dX12_book_133 rfl ?_
                      refine g13_39 hx hG ha kf_RX12_89 dX12_book_134 ?_
                      refine j_iconst hx dX12_book_137 ?_
                      refine j_iload_n hx 4 dX12_book_138 rfl ?_
                      refine j_imul hx (r := 2 * v124) dX12_book_139 rfl ?_
                      refine j_iconst hx dX12_book_140 ?_
                      refine j_iadd hx (r := 2 * v124 + 1) dX12_book_141 (by omega) ?_
                      refine j_iload hx 0 dX12_book_142 rfl ?_
                      refine j_iast hx hG (zr (k := 39) (t2 := 96) hG ha rfl) (by decide) rfl (zlen hG (zr (k := 39) (t2 := 96) hG ha rfl) (n := 24) rfl rfl) (by omega) (by omega) (j := (2 * v124 + 1).toNat) rfl dX12_book_144 ?_
                      obtain ⟨s58, e_s58⟩ : ∃ z, z = zU s57 (gP G a 39) (2 * v124 + 1).toNat v357 := ⟨_, rfl⟩
                      rw [← e_s58]
                      have hS_s58 : zSK G s58 := by rw [e_s58]; exact zSK_A hS_s57 (zr (k := 39) (t2 := 96) hG ha rfl) rfl rfl rfl (by omega)
                      refine j_iinc hx 4 [(2, .int (zI (v124 + 1))), (5, .int (zI v357)), (4, .int (zI v244)), (3, .int (zI ((s33 a 4)))), (0, .ref a)] dX12_book_145 rfl (by omega) (by decide) rfl ?_
                      refine j_goto hx 46 dX12_book_148 rfl ?_
                      have g376 : s58 a 4 = s56 a 4 := (by rw [e_s58, zU_at (Or.inl (zne (zr (k := 39) (t2 := 96) hG ha rfl) ha (by decide))), e_s57, zU_at (Or.inl (zne (zr (k := 39) (t2 := 96) hG ha rfl) ha (by decide)))])
                      have f377 := zf hS_s56 ha (k := 4) rfl
                      have g378 : s58 a 5 = s56 a 5 := (by rw [e_s58, zU_at (Or.inl (zne (zr (k := 39) (t2 := 96) hG ha rfl) ha (by decide))), e_s57, zU_at (Or.inl (zne (zr (k := 39) (t2 := 96) hG ha rfl) ha (by decide)))])
                      have f379 := zf hS_s56 ha (k := 5) rfl
                      have g380 : s58 a 0 = s56 a 0 := (by rw [e_s58, zU_at (Or.inl (zne (zr (k := 39) (t2 := 96) hG ha rfl) ha (by decide))), e_s57, zU_at (Or.inl (zne (zr (k := 39) (t2 := 96) hG ha rfl) ha (by decide)))])
                      have f381 := zf hS_s56 ha (k := 0) rfl
                      have g382 : s58 a 3 = s56 a 3 := (by rw [e_s58, zU_at (Or.inl (zne (zr (k := 39) (t2 := 96) hG ha rfl) ha (by decide))), e_s57, zU_at (Or.inl (zne (zr (k := 39) (t2 := 96) hG ha rfl) ha (by decide)))])
                      have f383 := zf hS_s56 ha (k := 3) rfl
                      have g384 : s58 a 7 = s56 a 7 := (by rw [e_s58, zU_at (Or.inl (zne (zr (k := 39) (t2 := 96) hG ha rfl) ha (by decide))), e_s57, zU_at (Or.inl (zne (zr (k := 39) (t2 := 96) hG ha rfl) ha (by decide)))])
                      have f385 := zf hS_s56 ha (k := 7) rfl
                      have g386 : s58 a 21 = s56 a 21 := (by rw [e_s58, zU_at (Or.inl (zne (zr (k := 39) (t2 := 96) hG ha rfl) ha (by decide))), e_s57, zU_at (Or.inl (zne (zr (k := 39) (t2 := 96) hG ha rfl) ha (by decide)))])
                      have f387 := zf hS_s56 ha (k := 21) rfl
                      have g388 : s58 a 22 = s56 a 22 := (by rw [e_s58, zU_at (Or.inl (zne (zr (k := 39) (t2 := 96) hG ha rfl) ha (by decide))), e_s57, zU_at (Or.inl (zne (zr (k := 39) (t2 := 96) hG ha rfl) ha (by decide)))])
                      have f389 := zf hS_s56 ha (k := 22) rfl
                      have g390 : s58 a 23 = s56 a 23 := (by rw [e_s58, zU_at (Or.inl (zne (zr (k := 39) (t2 := 96) hG ha rfl) ha (by decide))), e_s57, zU_at (Or.inl (zne (zr (k := 39) (t2 := 96) hG ha rfl) ha (by decide)))])
                      have f391 := zf hS_s56 ha (k := 23) rfl
                      have g392 : s58 a 24 = s56 a 24 := (by rw [e_s58, zU_at (Or.inl (zne (zr (k := 39) (t2 := 96) hG ha rfl) ha (by decide))), e_s57, zU_at (Or.inl (zne (zr (k := 39) (t2 := 96) hG ha rfl) ha (by decide)))])
                      have f393 := zf hS_s56 ha (k := 24) rfl
                      have g394 : s58 a 38 = s56 a 38 := (by rw [e_s58, zU_at (Or.inl (zne (zr (k := 39) (t2 := 96) hG ha rfl) ha (by decide))), e_s57, zU_at (Or.inl (zne (zr (k := 39) (t2 := 96) hG ha rfl) ha (by decide)))])
                      have f395 := zf hS_s56 ha (k := 38) rfl
                      have g396 : s58 a 51 = s56 a 51 := (by rw [e_s58, zU_at (Or.inl (zne (zr (k := 39) (t2 := 96) hG ha rfl) ha (by decide))), e_s57, zU_at (Or.inl (zne (zr (k := 39) (t2 := 96) hG ha rfl) ha (by decide)))])
                      have f397 := zf hS_s56 ha (k := 51) rfl
                      have g398 : s58 a 52 = s56 a 52 := (by rw [e_s58, zU_at (Or.inl (zne (zr (k := 39) (t2 := 96) hG ha rfl) ha (by decide))), e_s57, zU_at (Or.inl (zne (zr (k := 39) (t2 := 96) hG ha rfl) ha (by decide)))])
                      have f399 := zf hS_s56 ha (k := 52) rfl
                      exact j_sub [4, 0] [(0, .ref a), (2, .int (zI (v124 + 1)))] rfl (ih_c46_6 (v124 + 1) s58 (by omega) (by omega) hS_s58 (zFr_u (zFr_u (zFr_t (zFr_t (zFr_t (zFr_t (zFr_t zFr_rf hF_s7 (by decide)) hF_s33 (by decide)) hF_s42 (by decide)) hF_s55 (by decide)) hF_s56 (by decide)) e_s57 (zr (k := 39) (t2 := 96) hG ha rfl) (by decide)) e_s58 (zr (k := 39) (t2 := 96) hG ha rfl) (by decide)) (by omega) (by omega) (by omega) (by omega) (by omega) (by omega) (by omega) (by omega) (by omega) (by omega) (by omega) (by omega) (by omega) (by omega))
                    · skip
                      refine j_goto hx 151 dX12_book_120 rfl ?_
                      refine j_aload_n hx 3 dX12_book_151 rfl ?_
                      refine j_iload_n hx 4 dX12_book_152 rfl ?_
                      have f400 := zf hS_s56 ha (k := 0) rfl
                      have f401 := zf hS_s56 ha (k := 3) rfl
                      have f402 := zf hS_s56 ha (k := 4) rfl
                      have f403 := zf hS_s56 ha (k := 5) rfl
                      have f404 := zf hS_s56 ha (k := 7) rfl
                      have f405 := zf hS_s56 ha (k := 21) rfl
                      have f406 := zf hS_s56 ha (k := 22) rfl
                      have f407 := zf hS_s56 ha (k := 23) rfl
                      have f408 := zf hS_s56 ha (k := 24) rfl
                      have f409 := zf hS_s56 ha (k := 38) rfl
                      have f410 := zf hS_s56 ha (k := 51) rfl
                      have f411 := zf hS_s56 ha (k := 52) rfl
                      refine j_callV hx hG (c_X12_result hst a v124) lk_RX12_265 ha (by decide) rfl rfl rfl rfl [.int (zI v124)] ⟨rfl, hG, hS_s56, ha, (by omega)⟩ rfl rfl ⟨by decide, by decide⟩ ⟨by decide, by decide⟩ (k2 := 0) (n2 := 0) rfl rfl (Nat.le_of_ble_eq_true rfl) dX12_book_153 (kIM (fun v412 s59 hS_s59 hF_s59 q413 => ?_))
                      refine j_istore_n hx [(3, .int (zI v412)), (5, .int (zI v357)), (4, .int (zI v244)), (0, .ref a), (2, .int (zI v124))] dX12_book_156 (by decide) rfl ?_
                      refine j_aload_n hx 3 dX12_book_157 rfl ?_
                      have f414 := zf hS_s59 ha (k := 5) rfl
                      refine g13_5 hx hG ha kf_RX12_137 rfl dX12_book_158 ?_
                      refine j_iconst hx dX12_book_161 ?_
                      refine j_icmp_eq hx 167 dX12_book_162 rfl (by omega) ⟨by decide, by decide⟩ (fun h415 => ?_) (fun h415 => ?_)
                      · skip
                        refine j_aload_n hx 3 dX12_book_167 rfl ?_
                        refine j_iload_n hx 4 dX12_book_168 rfl ?_
                        refine p13_41 hx hG ha kf_RX12_198 dX12_book_169 ?_
                        obtain ⟨s60, e_s60⟩ : ∃ z, z = zU s59 a 41 v124 := ⟨_, rfl⟩
                        rw [← e_s60]
                        have hS_s60 : zSK G s60 := by rw [e_s60]; exact zSK_F hS_s59 ha rfl rfl rfl (by omega)
                        refine j_iconst hx dX12_book_172 ?_
                        refine j_istore hx [(4, .int (zI 0)), (3, .int (zI v412)), (5, .int (zI v357)), (0, .ref a), (2, .int (zI v124))] dX12_book_173 (by decide) rfl ?_
                        have c175_61 : ∀ (m_c175_61 : Nat) (v416 : Int) (s62 : zS), 2147483648 - v416 < m_c175_61 → (0 ≤ v416 ∧ v416 ≤ 2147483647) → (zSK G s62) → (zFr [97] G s60 s62) → JJ X E 6 G s62 0 0 [(0, .ref a), (2, .int (zI v124)), (3, .int (zI v412)), (4, .int (zI v416))] 175 [] := by
                          intro m_c175_61
                          induction m_c175_61 with
                          | zero => intro v416 s62 hm_c175_61 fA63 hS_s62 hF_s62; exfalso; omega
                          | succ m_c175_61 ih_c175_61 => 
                            intro v416 s62 hm_c175_61 fA63 hS_s62 hF_s62
                            refine j_iload hx 3 dX12_book_175 rfl ?_
                            refine j_iconst hx dX12_book_177 ?_
                            refine j_iload_n hx 1 dX12_book_178 rfl ?_
                            refine j_imul hx (r := 2 * v124) dX12_book_179 rfl ?_
                            refine j_icmp_ge hx 203 dX12_book_180 rfl (by omega) (by omega) (fun h417 => ?_) (fun h417 => ?_)
                            · skip
                              refine j_iload_n hx 2 dX12_book_203 rfl ?_
                              have g418 : s62 a 21 = s59 a 21 := (by rw [(zFr_g hF_s62 ha (by decide)), e_s60, zU_at (Or.inr (by decide))])
                              have f419 := zf hS_s59 ha (k := 21) rfl
                              have g420 : s62 a 22 = s59 a 22 := (by rw [(zFr_g hF_s62 ha (by decide)), e_s60, zU_at (Or.inr (by decide))])
                              have f421 := zf hS_s59 ha (k := 22) rfl
                              have g422 : s62 a 23 = s59 a 23 := (by rw [(zFr_g hF_s62 ha (by decide)), e_s60, zU_at (Or.inr (by decide))])
                              have f423 := zf hS_s59 ha (k := 23) rfl
                              have g424 : s62 a 24 = s59 a 24 := (by rw [(zFr_g hF_s62 ha (by decide)), e_s60, zU_at (Or.inr (by decide))])
                              have f425 := zf hS_s59 ha (k := 24) rfl
                              have g426 : s62 a 38 = s59 a 38 := (by rw [(zFr_g hF_s62 ha (by decide)), e_s60, zU_at (Or.inr (by decide))])
                              have f427 := zf hS_s59 ha (k := 38) rfl
                              have g428 : s62 a 51 = s59 a 51 := (by rw [(zFr_g hF_s62 ha (by decide)), e_s60, zU_at (Or.inr (by decide))])
                              have f429 := zf hS_s59 ha (k := 51) rfl
                              have g430 : s62 a 52 = s59 a 52 := (by rw [(zFr_g hF_s62 ha (by decide)), e_s60, zU_at (Or.inr (by decide))])
                              have f431 := zf hS_s59 ha (k := 52) rfl
                              exact j_iret hx hq rfl (by decide) (by decide) dX12_book_204 ⟨v412, rfl, rfl, hS_s62, (zFr_t (zFr_u (zFr_t (zFr_t (zFr_t (zFr_t (zFr_t (zFr_t (zFr_t (zFr_u zFr_rf e_s1 ha (by decide)) hF_s5 (by decide)) hF_s7 (by decide)) hF_s33 (by decide)) hF_s42 (by decide)) hF_s55 (by decide)) hF_s56 (by decide)) hF_s59 (by decide)) e_s60 ha (by decide)) hF_s62 (by decide)), ⟨(by omega), by omega, by omega, by omega, by omega, by omega, by omega, by omega⟩⟩
                            · skip
                              refine j_aload_n hx 0 dX12_book_183 rfl ?_
                              refine g13_40 hx hG ha kf_RX12_92 dX12_book_184 ?_
                              refine j_iload hx 3 dX12_book_187 rfl ?_
                              refine j_aload_n hx 0 dX12_book_189 rfl ?_
                              refine g13_39 hx hG ha kf_RX12_89 dX12_book_190 ?_
                              refine j_iload hx 3 dX12_book_193 rfl ?_
                              have f432 := zaI (j := (v416).toNat) hS_s7 (zr (k := 39) (t2 := 96) hG ha rfl) rfl (zlen hG (zr (k := 39) (t2 := 96) hG ha rfl) (n := 24) rfl rfl) (show 0 ≤ v416 by omega) (by omega) rfl
                              refine j_iald hx hG (zr (k := 39) (t2 := 96) hG ha rfl) (by decide) rfl (zlen hG (zr (k := 39) (t2 := 96) hG ha rfl) (n := 24) rfl rfl) (by omega) (by omega) (j := (v416).toNat) rfl (v := (s7 (gP G a 39) (v416).toNat)) (by rw [(zFr_g hF_s62 (zr (k := 39) (t2 := 96) hG ha rfl) (by decide)), e_s60, zU_at (Or.inl (zne ha (zr (k := 39) (t2 := 96) hG ha rfl) (by decide))), (zFr_g hF_s59 (zr (k := 39) (t2 := 96) hG ha rfl) (by decide)), (zFr_g hF_s56 (zr (k := 39) (t2 := 96) hG ha rfl) (by decide)), (zFr_g hF_s55 (zr (k := 39) (t2 := 96) hG ha rfl) (by decide)), (zFr_g hF_s42 (zr (k := 39) (t2 := 96) hG ha rfl) (by decide)), (zFr_g hF_s33 (zr (k := 39) (t2 := 96) hG ha rfl) (by decide))]) dX12_book_195 ?_
                              refine j_iast hx hG (zr (k := 40) (t2 := 97) hG ha rfl) (by decide) rfl (zlen hG (zr (k := 40) (t2 := 97) hG ha rfl) (n := 24) rfl rfl) (by omega) (by omega) (j := (v416).toNat) rfl dX12_book_196 ?_
                              obtain ⟨s66, e_s66⟩ : ∃ z, z = zU s62 (gP G a 40) (v416).toNat ((s7 (gP G a 39) (v416).toNat)) := ⟨_, rfl⟩
                              rw [← e_s66]
                              have hS_s66 : zSK G s66 := by rw [e_s66]; exact zSK_A hS_s62 (zr (k := 40) (t2 := 97) hG ha rfl) rfl rfl rfl (by omega)
                              refine j_iinc hx 3 [(4, .int (zI (v416 + 1))), (0, .ref a), (2, .int (zI v124)), (3, .int (zI v412))] dX12_book_197 rfl (by omega) (by decide) rfl ?_
                              refine j_goto hx 175 dX12_book_200 rfl ?_
                              exact j_sub [1, 2, 3, 0] [(0, .ref a), (2, .int (zI v124)), (3, .int (zI v412)), (4, .int (zI (v416 + 1)))] rfl (ih_c175_61 (v416 + 1) s66 (by omega) (by omega) hS_s66 (zFr_u (zFr_t zFr_rf hF_s62 (by decide)) e_s66 (zr (k := 40) (t2 := 97) hG ha rfl) (by decide)))
                        exact j_sub [3, 4, 1, 0] [(0, .ref a), (2, .int (zI v124)), (3, .int (zI v412)), (4, .int (zI 0))] rfl (c175_61 (2147483648 * 4) 0 s60 (by omega) (by omega) hS_s60 zFr_rf)
                      · skip
                        refine j_iload_n hx 0 dX12_book_165 rfl ?_
                        have f433 := zf hS_s59 ha (k := 21) rfl
                        have f434 := zf hS_s59 ha (k := 22) rfl
                        have f435 := zf hS_s59 ha (k := 23) rfl
                        have f436 := zf hS_s59 ha (k := 24) rfl
                        have f437 := zf hS_s59 ha (k := 38) rfl
                        have f438 := zf hS_s59 ha (k := 51) rfl
                        have f439 := zf hS_s59 ha (k := 52) rfl
                        exact j_iret hx hq rfl (by decide) (by decide) dX12_book_166 ⟨v412, rfl, rfl, hS_s59, (zFr_t (zFr_t (zFr_t (zFr_t (zFr_t (zFr_t (zFr_t (zFr_u zFr_rf e_s1 ha (by decide)) hF_s5 (by decide)) hF_s7 (by decide)) hF_s33 (by decide)) hF_s42 (by decide)) hF_s55 (by decide)) hF_s56 (by decide)) hF_s59 (by decide)), ⟨(by omega), by omega, by omega, by omega, by omega, by omega, by omega, by omega⟩⟩
                  · skip
                    refine j_aload_n hx 2 dX12_book_88 rfl ?_
                    refine j_iconst hx dX12_book_89 ?_
                    refine j_iload_n hx 1 dX12_book_90 rfl ?_
                    have f440 := zf hS_s42 ha (k := 5) rfl
                    have f441 := zf hS_s42 ha (k := 0) rfl
                    have f442 := zf hS_s42 ha (k := 3) rfl
                    have f443 := zf hS_s42 ha (k := 4) rfl
                    have f444 := zf hS_s42 ha (k := 7) rfl
                    have f445 := zf hS_s42 ha (k := 21) rfl
                    have f446 := zf hS_s42 ha (k := 22) rfl
                    have f447 := zf hS_s42 ha (k := 23) rfl
                    have f448 := zf hS_s42 ha (k := 24) rfl
                    have f449 := zf hS_s42 ha (k := 38) rfl
                    have f450 := zf hS_s42 ha (k := 51) rfl
                    have f451 := zf hS_s42 ha (k := 52) rfl
                    refine j_callV hx hG (c_X12_wrong hst a 3 ((s33 a 4))) lk_RX12_173 ha (by decide) rfl rfl rfl rfl [.int (zI 3), .int (zI ((s33 a 4)))] ⟨rfl, hG, hS_s42, ha, (by omega), (by omega)⟩ rfl rfl ⟨by decide, by decide⟩ ⟨by decide, by decide⟩ (k2 := 0) (n2 := 0) rfl rfl (Nat.le_of_ble_eq_true rfl) dX12_book_91 (kVM (fun s67 hS_s67 hF_s67 q453 => ?_))
                    refine j_aload_n hx 2 dX12_book_94 rfl ?_
                    refine j_iconst hx dX12_book_95 ?_
                    refine j_aload_n hx 2 dX12_book_96 rfl ?_
                    have f454 := zf hS_s67 ha (k := 24) rfl
                    refine g13_24 hx hG ha kf_RX12_189 rfl dX12_book_97 ?_
                    refine j_iconst hx dX12_book_100 ?_
                    refine j_isub hx (r := (s67 a 24) - 1) dX12_book_101 (by omega) ?_
                    have f455 := zf hS_s67 ha (k := 4) rfl
                    have f456 := zf hS_s67 ha (k := 3) rfl
                    have f457 := zf hS_s67 ha (k := 5) rfl
                    have f458 := zf hS_s67 ha (k := 0) rfl
                    have f459 := zf hS_s67 ha (k := 7) rfl
                    have f460 := zf hS_s67 ha (k := 21) rfl
                    have f461 := zf hS_s67 ha (k := 22) rfl
                    have f462 := zf hS_s67 ha (k := 23) rfl
                    have f463 := zf hS_s67 ha (k := 38) rfl
                    have f464 := zf hS_s67 ha (k := 51) rfl
                    have f465 := zf hS_s67 ha (k := 52) rfl
                    refine j_callV hx hG (c_X12_readNumber_p hst a 0 ((s67 a 24) - 1)) lk_RX12_219 ha (by decide) rfl rfl rfl rfl [.int (zI 0), .int (zI ((s67 a 24) - 1))] ⟨rfl, hG, hS_s67, ha, (by omega), (by omega), (by omega)⟩ rfl rfl ⟨by decide, by decide⟩ ⟨by decide, by decide⟩ (k2 := 0) (n2 := 0) rfl rfl (Nat.le_of_ble_eq_true rfl) dX12_book_102 (kIM (fun v466 s68 hS_s68 hF_s68 q467 => ?_))
                    refine j_istore hx [(5, .int (zI v466)), (4, .int (zI v244)), (3, .int (zI ((s33 a 4)))), (0, .ref a), (2, .int (zI v124))] dX12_book_105 (by decide) rfl ?_
                    refine j_aload_n hx 3 dX12_book_107 rfl ?_
                    refine j_bipush hx dX12_book_108 rfl ?_
                    have f468 := zf hS_s68 ha (k := 4) rfl
                    have f469 := zf hS_s68 ha (k := 3) rfl
                    have f470 := zf hS_s68 ha (k := 5) rfl
                    have f471 := zf hS_s68 ha (k := 0) rfl
                    have f472 := zf hS_s68 ha (k := 7) rfl
                    have f473 := zf hS_s68 ha (k := 21) rfl
                    have f474 := zf hS_s68 ha (k := 22) rfl
                    have f475 := zf hS_s68 ha (k := 23) rfl
                    have f476 := zf hS_s68 ha (k := 24) rfl
                    have f477 := zf hS_s68 ha (k := 38) rfl
                    have f478 := zf hS_s68 ha (k := 51) rfl
                    have f479 := zf hS_s68 ha (k := 52) rfl
                    refine j_callV hx hG (c_X12_sign hst a 59) lk_RX12_262 ha (by decide) rfl rfl rfl rfl [.int (zI 59)] ⟨rfl, hG, hS_s68, ha, (by omega), (by omega)⟩ rfl rfl ⟨by decide, by decide⟩ ⟨by decide, by decide⟩ (k2 := 0) (n2 := 0) rfl rfl (Nat.le_of_ble_eq_true rfl) dX12_book_110 (kVM (fun s69 hS_s69 hF_s69 q481 => ?_))
                    refine j_aload_n hx 3 dX12_book_113 rfl ?_
                    refine j_callV hx hG (c_X12_fine hst a) lk_RX12_166 ha (by decide) rfl rfl rfl rfl [] ⟨rfl, hG, hS_s69, ha⟩ rfl rfl ⟨by decide, by decide⟩ ⟨by decide, by decide⟩ (k2 := 0) (n2 := 0) rfl rfl (Nat.le_of_ble_eq_true rfl) dX12_book_114 (kIP (fun v482 q483 => ?_))
                    refine j_if_ne hx 123 dX12_book_117 rfl (by omega) (fun h484 => ?_) (fun h484 => ?_)
                    · skip
                      refine j_aload_n hx 3 dX12_book_123 rfl ?_
                      refine g13_39 hx hG ha kf_RX12_89 dX12_book_124 ?_
                      refine j_iconst hx dX12_book_127 ?_
                      refine j_iload_n hx 4 dX12_book_128 rfl ?_
                      refine j_imul hx (r := 2 * v124) dX12_book_129 rfl ?_
                      refine j_iload hx 1 dX12_book_130 rfl ?_
                      refine j_iast hx hG (zr (k := 39) (t2 := 96) hG ha rfl) (by decide) rfl (zlen hG (zr (k := 39) (t2 := 96) hG ha rfl) (n := 24) rfl rfl) (by omega) (by omega) (j := (2 * v124).toNat) rfl dX12_book_132 ?_
                      obtain ⟨s70, e_s70⟩ : ∃ z, z = zU s69 (gP G a 39) (2 * v124).toNat v244 := ⟨_, rfl⟩
                      rw [← e_s70]
                      have hS_s70 : zSK G s70 := by rw [e_s70]; exact zSK_A hS_s69 (zr (k := 39) (t2 := 96) hG ha rfl) rfl rfl rfl (by omega)
                      refine j_aload_n hx 3 dX12_book_133 rfl ?_
                      refine g13_39 hx hG ha kf_RX12_89 dX12_book_134 ?_
                      refine j_iconst hx dX12_book_137 ?_
                      refine j_iload_n hx 4 dX12_book_138 rfl ?_
                      refine j_imul hx (r := 2 * v124) dX12_book_139 rfl ?_
                      refine j_iconst hx dX12_book_140 ?_
                      refine j_iadd hx (r := 2 * v124 + 1) dX12_book_141 (by omega) ?_
                      refine j_iload hx 0 dX12_book_142 rfl ?_
                      refine j_iast hx hG (zr (k := 39) (t2 := 96) hG ha rfl) (by decide) rfl (zlen hG (zr (k := 39) (t2 := 96) hG ha rfl) (n := 24) rfl rfl) (by omega) (by omega) (j := (2 * v124 + 1).toNat) rfl dX12_book_144 ?_
                      obtain ⟨s71, e_s71⟩ : ∃ z, z = zU s70 (gP G a 39) (2 * v124 + 1).toNat v466 := ⟨_, rfl⟩
                      rw [← e_s71]
                      have hS_s71 : zSK G s71 := by rw [e_s71]; exact zSK_A hS_s70 (zr (k := 39) (t2 := 96) hG ha rfl) rfl rfl rfl (by omega)
                      refine j_iinc hx 4 [(2, .int (zI (v124 + 1))), (5, .int (zI v466)), (4, .int (zI v244)), (3, .int (zI ((s33 a 4)))), (0, .ref a)] dX12_book_145 rfl (by omega) (by decide) rfl ?_
                      refine j_goto hx 46 dX12_book_148 rfl ?_
                      have g485 : s71 a 4 = s69 a 4 := (by rw [e_s71, zU_at (Or.inl (zne (zr (k := 39) (t2 := 96) hG ha rfl) ha (by decide))), e_s70, zU_at (Or.inl (zne (zr (k := 39) (t2 := 96) hG ha rfl) ha (by decide)))])
                      have f486 := zf hS_s69 ha (k := 4) rfl
                      have g487 : s71 a 5 = s69 a 5 := (by rw [e_s71, zU_at (Or.inl (zne (zr (k := 39) (t2 := 96) hG ha rfl) ha (by decide))), e_s70, zU_at (Or.inl (zne (zr (k := 39) (t2 := 96) hG ha rfl) ha (by decide)))])
                      have f488 := zf hS_s69 ha (k := 5) rfl
                      have g489 : s71 a 0 = s69 a 0 := (by rw [e_s71, zU_at (Or.inl (zne (zr (k := 39) (t2 := 96) hG ha rfl) ha (by decide))), e_s70, zU_at (Or.inl (zne (zr (k := 39) (t2 := 96) hG ha rfl) ha (by decide)))])
                      have f490 := zf hS_s69 ha (k := 0) rfl
                      have g491 : s71 a 3 = s69 a 3 := (by rw [e_s71, zU_at (Or.inl (zne (zr (k := 39) (t2 := 96) hG ha rfl) ha (by decide))), e_s70, zU_at (Or.inl (zne (zr (k := 39) (t2 := 96) hG ha rfl) ha (by decide)))])
                      have f492 := zf hS_s69 ha (k := 3) rfl
                      have g493 : s71 a 7 = s69 a 7 := (by rw [e_s71, zU_at (Or.inl (zne (zr (k := 39) (t2 := 96) hG ha rfl) ha (by decide))), e_s70, zU_at (Or.inl (zne (zr (k := 39) (t2 := 96) hG ha rfl) ha (by decide)))])
                      have f494 := zf hS_s69 ha (k := 7) rfl
                      have g495 : s71 a 21 = s69 a 21 := (by rw [e_s71, zU_at (Or.inl (zne (zr (k := 39) (t2 := 96) hG ha rfl) ha (by decide))), e_s70, zU_at (Or.inl (zne (zr (k := 39) (t2 := 96) hG ha rfl) ha (by decide)))])
                      have f496 := zf hS_s69 ha (k := 21) rfl
                      have g497 : s71 a 22 = s69 a 22 := (by rw [e_s71, zU_at (Or.inl (zne (zr (k := 39) (t2 := 96) hG ha rfl) ha (by decide))), e_s70, zU_at (Or.inl (zne (zr (k := 39) (t2 := 96) hG ha rfl) ha (by decide)))])
                      have f498 := zf hS_s69 ha (k := 22) rfl
                      have g499 : s71 a 23 = s69 a 23 := (by rw [e_s71, zU_at (Or.inl (zne (zr (k := 39) (t2 := 96) hG ha rfl) ha (by decide))), e_s70, zU_at (Or.inl (zne (zr (k := 39) (t2 := 96) hG ha rfl) ha (by decide)))])
                      have f500 := zf hS_s69 ha (k := 23) rfl
                      have g501 : s71 a 24 = s69 a 24 := (by rw [e_s71, zU_at (Or.inl (zne (zr (k := 39) (t2 := 96) hG ha rfl) ha (by decide))), e_s70, zU_at (Or.inl (zne (zr (k := 39) (t2 := 96) hG ha rfl) ha (by decide)))])
                      have f502 := zf hS_s69 ha (k := 24) rfl
                      have g503 : s71 a 38 = s69 a 38 := (by rw [e_s71, zU_at (Or.inl (zne (zr (k := 39) (t2 := 96) hG ha rfl) ha (by decide))), e_s70, zU_at (Or.inl (zne (zr (k := 39) (t2 := 96) hG ha rfl) ha (by decide)))])
                      have f504 := zf hS_s69 ha (k := 38) rfl
                      have g505 : s71 a 51 = s69 a 51 := (by rw [e_s71, zU_at (Or.inl (zne (zr (k := 39) (t2 := 96) hG ha rfl) ha (by decide))), e_s70, zU_at (Or.inl (zne (zr (k := 39) (t2 := 96) hG ha rfl) ha (by decide)))])
                      have f506 := zf hS_s69 ha (k := 51) rfl
                      have g507 : s71 a 52 = s69 a 52 := (by rw [e_s71, zU_at (Or.inl (zne (zr (k := 39) (t2 := 96) hG ha rfl) ha (by decide))), e_s70, zU_at (Or.inl (zne (zr (k := 39) (t2 := 96) hG ha rfl) ha (by decide)))])
                      have f508 := zf hS_s69 ha (k := 52) rfl
                      exact j_sub [4, 0] [(0, .ref a), (2, .int (zI (v124 + 1)))] rfl (ih_c46_6 (v124 + 1) s71 (by omega) (by omega) hS_s71 (zFr_u (zFr_u (zFr_t (zFr_t (zFr_t (zFr_t (zFr_t (zFr_t zFr_rf hF_s7 (by decide)) hF_s33 (by decide)) hF_s42 (by decide)) hF_s67 (by decide)) hF_s68 (by decide)) hF_s69 (by decide)) e_s70 (zr (k := 39) (t2 := 96) hG ha rfl) (by decide)) e_s71 (zr (k := 39) (t2 := 96) hG ha rfl) (by decide)) (by omega) (by omega) (by omega) (by omega) (by omega) (by omega) (by omega) (by omega) (by omega) (by omega) (by omega) (by omega) (by omega) (by omega))
                    · skip
                      refine j_goto hx 151 dX12_book_120 rfl ?_
                      refine j_aload_n hx 3 dX12_book_151 rfl ?_
                      refine j_iload_n hx 4 dX12_book_152 rfl ?_
                      have f509 := zf hS_s69 ha (k := 0) rfl
                      have f510 := zf hS_s69 ha (k := 3) rfl
                      have f511 := zf hS_s69 ha (k := 4) rfl
                      have f512 := zf hS_s69 ha (k := 5) rfl
                      have f513 := zf hS_s69 ha (k := 7) rfl
                      have f514 := zf hS_s69 ha (k := 21) rfl
                      have f515 := zf hS_s69 ha (k := 22) rfl
                      have f516 := zf hS_s69 ha (k := 23) rfl
                      have f517 := zf hS_s69 ha (k := 24) rfl
                      have f518 := zf hS_s69 ha (k := 38) rfl
                      have f519 := zf hS_s69 ha (k := 51) rfl
                      have f520 := zf hS_s69 ha (k := 52) rfl
                      refine j_callV hx hG (c_X12_result hst a v124) lk_RX12_265 ha (by decide) rfl rfl rfl rfl [.int (zI v124)] ⟨rfl, hG, hS_s69, ha, (by omega)⟩ rfl rfl ⟨by decide, by decide⟩ ⟨by decide, by decide⟩ (k2 := 0) (n2 := 0) rfl rfl (Nat.le_of_ble_eq_true rfl) dX12_book_153 (kIM (fun v521 s72 hS_s72 hF_s72 q522 => ?_))
                      refine j_istore_n hx [(3, .int (zI v521)), (5, .int (zI v466)), (4, .int (zI v244)), (0, .ref a), (2, .int (zI v124))] dX12_book_156 (by decide) rfl ?_
                      refine j_aload_n hx 3 dX12_book_157 rfl ?_
                      have f523 := zf hS_s72 ha (k := 5) rfl
                      refine g13_5 hx hG ha kf_RX12_137 rfl dX12_book_158 ?_
                      refine j_iconst hx dX12_book_161 ?_
                      refine j_icmp_eq hx 167 dX12_book_162 rfl (by omega) ⟨by decide, by decide⟩ (fun h524 => ?_) (fun h524 => ?_)
                      · skip
                        refine j_aload_n hx 3 dX12_book_167 rfl ?_
                        refine j_iload_n hx 4 dX12_book_168 rfl ?_
                        refine p13_41 hx hG ha kf_RX12_198 dX12_book_169 ?_
                        obtain ⟨s73, e_s73⟩ : ∃ z, z = zU s72 a 41 v124 := ⟨_, rfl⟩
                        rw [← e_s73]
                        have hS_s73 : zSK G s73 := by rw [e_s73]; exact zSK_F hS_s72 ha rfl rfl rfl (by omega)
                        refine j_iconst hx dX12_book_172 ?_
                        refine j_istore hx [(4, .int (zI 0)), (3, .int (zI v521)), (5, .int (zI v466)), (0, .ref a), (2, .int (zI v124))] dX12_book_173 (by decide) rfl ?_
                        have c175_74 : ∀ (m_c175_74 : Nat) (v525 : Int) (s75 : zS), 2147483648 - v525 < m_c175_74 → (0 ≤ v525 ∧ v525 ≤ 2147483647) → (zSK G s75) → (zFr [97] G s73 s75) → JJ X E 6 G s75 0 0 [(0, .ref a), (2, .int (zI v124)), (3, .int (zI v521)), (4, .int (zI v525))] 175 [] := by
                          intro m_c175_74
                          induction m_c175_74 with
                          | zero => intro v525 s75 hm_c175_74 fA76 hS_s75 hF_s75; exfalso; omega
                          | succ m_c175_74 ih_c175_74 => 
                            intro v525 s75 hm_c175_74 fA76 hS_s75 hF_s75
                            refine j_iload hx 3 dX12_book_175 rfl ?_
                            refine j_iconst hx dX12_book_177 ?_
                            refine j_iload_n hx 1 dX12_book_178 rfl ?_
                            refine j_imul hx (r := 2 * v124) dX12_book_179 rfl ?_
                            refine j_icmp_ge hx 203 dX12_book_180 rfl (by omega) (by omega) (fun h526 => ?_) (fun h526 => ?_)
                            · skip
                              refine j_iload_n hx 2 dX12_book_203 rfl ?_
                              have g527 : s75 a 21 = s72 a 21 := (by rw [(zFr_g hF_s75 ha (by decide)), e_s73, zU_at (Or.inr (by decide))])
                              have f528 := zf hS_s72 ha (k := 21) rfl
                              have g529 : s75 a 22 = s72 a 22 := (by rw [(zFr_g hF_s75 ha (by decide)), e_s73, zU_at (Or.inr (by decide))])
                              have f530 := zf hS_s72 ha (k := 22) rfl
                              have g531 : s75 a 23 = s72 a 23 := (by rw [(zFr_g hF_s75 ha (by decide)), e_s73, zU_at (Or.inr (by decide))])
                              have f532 := zf hS_s72 ha (k := 23) rfl
                              have g533 : s75 a 24 = s72 a 24 := (by rw [(zFr_g hF_s75 ha (by decide)), e_s73, zU_at (Or.inr (by decide))])
                              have f534 := zf hS_s72 ha (k := 24) rfl
                              have g535 : s75 a 38 = s72 a 38 := (by rw [(zFr_g hF_s75 ha (by decide)), e_s73, zU_at (Or.inr (by decide))])
                              have f536 := zf hS_s72 ha (k := 38) rfl
                              have g537 : s75 a 51 = s72 a 51 := (by rw [(zFr_g hF_s75 ha (by decide)), e_s73, zU_at (Or.inr (by decide))])
                              have f538 := zf hS_s72 ha (k := 51) rfl
                              have g539 : s75 a 52 = s72 a 52 := (by rw [(zFr_g hF_s75 ha (by decide)), e_s73, zU_at (Or.inr (by decide))])
                              have f540 := zf hS_s72 ha (k := 52) rfl
                              exact j_iret hx hq rfl (by decide) (by decide) dX12_book_204 ⟨v521, rfl, rfl, hS_s75, (zFr_t (zFr_u (zFr_t (zFr_t (zFr_t (zFr_t (zFr_t (zFr_t (zFr_t (zFr_t (zFr_u zFr_rf e_s1 ha (by decide)) hF_s5 (by decide)) hF_s7 (by decide)) hF_s33 (by decide)) hF_s42 (by decide)) hF_s67 (by decide)) hF_s68 (by decide)) hF_s69 (by decide)) hF_s72 (by decide)) e_s73 ha (by decide)) hF_s75 (by decide)), ⟨(by omega), by omega, by omega, by omega, by omega, by omega, by omega, by omega⟩⟩
                            · skip
                              refine j_aload_n hx 0 dX12_book_183 rfl ?_
                              refine g13_40 hx hG ha kf_RX12_92 dX12_book_184 ?_
                              refine j_iload hx 3 dX12_book_187 rfl ?_
                              refine j_aload_n hx 0 dX12_book_189 rfl ?_
                              refine g13_39 hx hG ha kf_RX12_89 dX12_book_190 ?_
                              refine j_iload hx 3 dX12_book_193 rfl ?_
                              have f541 := zaI (j := (v525).toNat) hS_s7 (zr (k := 39) (t2 := 96) hG ha rfl) rfl (zlen hG (zr (k := 39) (t2 := 96) hG ha rfl) (n := 24) rfl rfl) (show 0 ≤ v525 by omega) (by omega) rfl
                              refine j_iald hx hG (zr (k := 39) (t2 := 96) hG ha rfl) (by decide) rfl (zlen hG (zr (k := 39) (t2 := 96) hG ha rfl) (n := 24) rfl rfl) (by omega) (by omega) (j := (v525).toNat) rfl (v := (s7 (gP G a 39) (v525).toNat)) (by rw [(zFr_g hF_s75 (zr (k := 39) (t2 := 96) hG ha rfl) (by decide)), e_s73, zU_at (Or.inl (zne ha (zr (k := 39) (t2 := 96) hG ha rfl) (by decide))), (zFr_g hF_s72 (zr (k := 39) (t2 := 96) hG ha rfl) (by decide)), (zFr_g hF_s69 (zr (k := 39) (t2 := 96) hG ha rfl) (by decide)), (zFr_g hF_s68 (zr (k := 39) (t2 := 96) hG ha rfl) (by decide)), (zFr_g hF_s67 (zr (k := 39) (t2 := 96) hG ha rfl) (by decide)), (zFr_g hF_s42 (zr (k := 39) (t2 := 96) hG ha rfl) (by decide)), (zFr_g hF_s33 (zr (k := 39) (t2 := 96) hG ha rfl) (by decide))]) dX12_book_195 ?_
                              refine j_iast hx hG (zr (k := 40) (t2 := 97) hG ha rfl) (by decide) rfl (zlen hG (zr (k := 40) (t2 := 97) hG ha rfl) (n := 24) rfl rfl) (by omega) (by omega) (j := (v525).toNat) rfl dX12_book_196 ?_
                              obtain ⟨s79, e_s79⟩ : ∃ z, z = zU s75 (gP G a 40) (v525).toNat ((s7 (gP G a 39) (v525).toNat)) := ⟨_, rfl⟩
                              rw [← e_s79]
                              have hS_s79 : zSK G s79 := by rw [e_s79]; exact zSK_A hS_s75 (zr (k := 40) (t2 := 97) hG ha rfl) rfl rfl rfl (by omega)
                              refine j_iinc hx 3 [(4, .int (zI (v525 + 1))), (0, .ref a), (2, .int (zI v124)), (3, .int (zI v521))] dX12_book_197 rfl (by omega) (by decide) rfl ?_
                              refine j_goto hx 175 dX12_book_200 rfl ?_
                              exact j_sub [1, 2, 3, 0] [(0, .ref a), (2, .int (zI v124)), (3, .int (zI v521)), (4, .int (zI (v525 + 1)))] rfl (ih_c175_74 (v525 + 1) s79 (by omega) (by omega) hS_s79 (zFr_u (zFr_t zFr_rf hF_s75 (by decide)) e_s79 (zr (k := 40) (t2 := 97) hG ha rfl) (by decide)))
                        exact j_sub [3, 4, 1, 0] [(0, .ref a), (2, .int (zI v124)), (3, .int (zI v521)), (4, .int (zI 0))] rfl (c175_74 (2147483648 * 4) 0 s73 (by omega) (by omega) hS_s73 zFr_rf)
                      · skip
                        refine j_iload_n hx 0 dX12_book_165 rfl ?_
                        have f542 := zf hS_s72 ha (k := 21) rfl
                        have f543 := zf hS_s72 ha (k := 22) rfl
                        have f544 := zf hS_s72 ha (k := 23) rfl
                        have f545 := zf hS_s72 ha (k := 24) rfl
                        have f546 := zf hS_s72 ha (k := 38) rfl
                        have f547 := zf hS_s72 ha (k := 51) rfl
                        have f548 := zf hS_s72 ha (k := 52) rfl
                        exact j_iret hx hq rfl (by decide) (by decide) dX12_book_166 ⟨v521, rfl, rfl, hS_s72, (zFr_t (zFr_t (zFr_t (zFr_t (zFr_t (zFr_t (zFr_t (zFr_t (zFr_u zFr_rf e_s1 ha (by decide)) hF_s5 (by decide)) hF_s7 (by decide)) hF_s33 (by decide)) hF_s42 (by decide)) hF_s67 (by decide)) hF_s68 (by decide)) hF_s69 (by decide)) hF_s72 (by decide)), ⟨(by omega), by omega, by omega, by omega, by omega, by omega, by omega, by omega⟩⟩
        exact j_sub [1, 0] [(0, .ref a), (2, .int (zI 0))] rfl (c46_6 (2147483648 * 4) 0 s5 (by omega) (by omega) hS_s5 zFr_rf (by omega) (by omega) (by omega) (by omega) (by omega) (by omega) (by omega) (by omega) (by omega) (by omega) (by omega) (by omega) (by omega) (by omega))

set_option maxHeartbeats 1200000 in
set_option maxRecDepth 20000 in
theorem c_X12_fault {E : zE} {l : Launch} (hst : l.stackTraces = false) (a : Nat) : Con E l yX12_fault cX12_fault 1 (some .int) { frames := 0, cells := 0, slots := 0, locals := 0 } (fun G s vs => vs = [.ref a] ∧ zGK G ∧ zSK G s ∧ (gT G a = 13)) (fun G s _ => pI (fun r G2 s2 => G2 = G ∧ zSK G s2 ∧ zFr [13] G s s2 ∧ ((-2147483648) ≤ r ∧ r ≤ 2147483647) ∧ s2 a 3 = s a 3 ∧ s2 a 4 = s a 4 ∧ s2 a 5 = s a 5 ∧ s2 a 7 = s a 7 ∧ s2 a 21 = s a 21 ∧ s2 a 22 = s a 22 ∧ s2 a 23 = s a 23 ∧ s2 a 24 = s a 24 ∧ s2 a 38 = s a 38 ∧ s2 a 51 = s a 51 ∧ s2 a 52 = s a 52)) := by
  refine Con.mk hst (by decide) (fun G s vs h => by rw [h.1]; exact Nat.le_of_ble_eq_true rfl) ?_
  rintro X G s0 vs ⟨rfl, hG, hS0, ha⟩ rfl hx hq
  show JJ X E 1 G s0 0 0 [(0, .ref a)] 0 []
  refine j_aload_n hx 0 dX12_fault_0 rfl ?_
  refine j_iconst hx dX12_fault_1 ?_
  refine p13_0 hx hG ha kf_RX12_3 dX12_fault_2 ?_
  obtain ⟨s1, e_s1⟩ : ∃ z, z = zU s0 a 0 0 := ⟨_, rfl⟩
  rw [← e_s1]
  have hS_s1 : zSK G s1 := by rw [e_s1]; exact zSK_F hS0 ha rfl rfl rfl (by omega)
  refine j_aload_n hx 0 dX12_fault_5 rfl ?_
  have f1 := zf hS0 ha (k := 8) rfl
  refine g13_8 hx hG ha kf_RX12_17 (v := (s0 a 8)) (by rw [e_s1, zU_at (Or.inr (by decide))]) dX12_fault_6 ?_
  have g2 : s1 a 3 = s0 a 3 := (by rw [e_s1, zU_at (Or.inr (by decide))])
  have f3 := zf hS0 ha (k := 3) rfl
  have g4 : s1 a 4 = s0 a 4 := (by rw [e_s1, zU_at (Or.inr (by decide))])
  have f5 := zf hS0 ha (k := 4) rfl
  have g6 : s1 a 5 = s0 a 5 := (by rw [e_s1, zU_at (Or.inr (by decide))])
  have f7 := zf hS0 ha (k := 5) rfl
  have g8 : s1 a 7 = s0 a 7 := (by rw [e_s1, zU_at (Or.inr (by decide))])
  have f9 := zf hS0 ha (k := 7) rfl
  have g10 : s1 a 21 = s0 a 21 := (by rw [e_s1, zU_at (Or.inr (by decide))])
  have f11 := zf hS0 ha (k := 21) rfl
  have g12 : s1 a 22 = s0 a 22 := (by rw [e_s1, zU_at (Or.inr (by decide))])
  have f13 := zf hS0 ha (k := 22) rfl
  have g14 : s1 a 23 = s0 a 23 := (by rw [e_s1, zU_at (Or.inr (by decide))])
  have f15 := zf hS0 ha (k := 23) rfl
  have g16 : s1 a 24 = s0 a 24 := (by rw [e_s1, zU_at (Or.inr (by decide))])
  have f17 := zf hS0 ha (k := 24) rfl
  have g18 : s1 a 38 = s0 a 38 := (by rw [e_s1, zU_at (Or.inr (by decide))])
  have f19 := zf hS0 ha (k := 38) rfl
  have g20 : s1 a 51 = s0 a 51 := (by rw [e_s1, zU_at (Or.inr (by decide))])
  have f21 := zf hS0 ha (k := 51) rfl
  have g22 : s1 a 52 = s0 a 52 := (by rw [e_s1, zU_at (Or.inr (by decide))])
  have f23 := zf hS0 ha (k := 52) rfl
  exact j_iret hx hq rfl (by decide) (by decide) dX12_fault_9 ⟨(s0 a 8), rfl, rfl, hS_s1, (zFr_u zFr_rf e_s1 ha (by decide)), ⟨(by omega), by omega, by omega, by omega, by omega, by omega, by omega, by omega, by omega, by omega, by omega, by omega⟩⟩
