set_option maxHeartbeats 1200000 in
set_option maxRecDepth 20000 in
theorem c_X12_readPlan {E : zE} {l : Launch} (hst : l.stackTraces = false) (a : Nat) (x1 : Int) (x2 : Int) (x3 : Int) : Con E l yX12_readPlan cX12_readPlan 6 (some .int) { frames := 27, cells := 0, slots := 0, locals := 683 } (fun G s vs => vs = [.ref a, .int (zI x1), .int (zI x2), .int (zI x3)] ∧ zGK G ∧ zSK G s ∧ (gT G a = 13) ∧ ((-2147483648) ≤ x1 ∧ x1 ≤ 2147483647) ∧ ((-2147483648) ≤ x2 ∧ x2 ≤ 2147483647) ∧ ((-2147483648) ≤ x3 ∧ x3 ≤ 2147483647) ∧ (s a 0 = 0) ∧ (zRva (s (gP G a 34)) (s (gP G a 35)) (s (gP G a 37))) ∧ (0 ≤ x1 ∧ x1 ≤ 2 → x3 = x1 ∨ x3 = x1 + 3)) (fun G s _ => pI (fun r G2 s2 => G2 = G ∧ zSK G s2 ∧ zFr [13, 71, 85, 88, 89, 90, 91, 92, 93, 94] G s s2 ∧ ((-2147483648) ≤ r ∧ r ≤ 2147483647) ∧ zRva (s2 (gP G a 34)) (s2 (gP G a 35)) (s2 (gP G a 37)) ∧ (zc (s2 (gP G a 28)) = zc (s (gP G a 28)) ∨ zc (s2 (gP G a 28)) = zc (s (gP G a 27))) ∧ (s2 (gP G a 28) 488 = s (gP G a 28) 488 ∨ s2 (gP G a 28) 488 = s (gP G a 27) 488) ∧ s2 a 21 = s a 21 ∧ s2 a 22 = s a 22 ∧ s2 a 23 = s a 23 ∧ s2 a 24 = s a 24 ∧ s2 a 51 = s a 51 ∧ s2 a 52 = s a 52)) := by
  refine Con.mk hst (by decide) (fun G s vs h => by rw [h.1]; exact Nat.le_of_ble_eq_true rfl) ?_
  rintro X G s0 vs ⟨rfl, hG, hS0, ha, hx1, hx2, hx3, e0, e1, e2⟩ rfl hx hq
  show JJ X E 6 G s0 0 0 [(0, .ref a), (1, .int (zI x1)), (2, .int (zI x2)), (3, .int (zI x3))] 0 []
  refine j_aload_n hx 0 dX12_readPlan_0 rfl ?_
  refine j_iload_n hx 1 dX12_readPlan_1 rfl ?_
  refine j_iconst hx dX12_readPlan_2 ?_
  refine j_aload_n hx 0 dX12_readPlan_3 rfl ?_
  have f1 := zf hS0 ha (k := 24) rfl
  refine g13_24 hx hG ha kf_RX12_189 rfl dX12_readPlan_4 ?_
  refine j_iconst hx dX12_readPlan_7 ?_
  refine j_isub hx (r := (s0 a 24) - 1) dX12_readPlan_8 (by omega) ?_
  refine j_callS hx (c_X12_within hst x1 0 ((s0 a 24) - 1)) lk_RX12_314 [.int (zI x1), .int (zI 0), .int (zI ((s0 a 24) - 1))] ⟨rfl, hG, hS0, (by omega), (by omega), (by omega)⟩ rfl rfl ⟨by decide, by decide⟩ ⟨by decide, by decide⟩ (k2 := 0) (n2 := 0) rfl rfl (Nat.le_of_ble_eq_true rfl) dX12_readPlan_9 (kIP (fun v2 q3 => ?_))
  refine j_iconst hx dX12_readPlan_12 ?_
  refine j_iconst hx dX12_readPlan_13 ?_
  rcases (show v2 = 0 ∨ v2 = 1 by omega) with rfl | rfl
  · skip
    have f5 := zf hS0 ha (k := 3) rfl
    have f6 := zf hS0 ha (k := 4) rfl
    have f7 := zf hS0 ha (k := 5) rfl
    have f8 := zf hS0 ha (k := 7) rfl
    have f9 := zf hS0 ha (k := 21) rfl
    have f10 := zf hS0 ha (k := 22) rfl
    have f11 := zf hS0 ha (k := 23) rfl
    have f12 := zf hS0 ha (k := 38) rfl
    have f13 := zf hS0 ha (k := 51) rfl
    have f14 := zf hS0 ha (k := 52) rfl
    refine j_callV hx hG (c_X12_may_f hst a 0 1 0) lk_RX12_240 ha (by decide) rfl rfl rfl rfl [.int (zI 0), .int (zI 1), .int (zI 0)] ⟨rfl, hG, hS0, ha, (by omega), (by omega), (by omega), (by omega)⟩ rfl rfl ⟨by decide, by decide⟩ ⟨by decide, by decide⟩ (k2 := 0) (n2 := 0) rfl rfl (Nat.le_of_ble_eq_true rfl) dX12_readPlan_14 (kIM (fun v15 s1 hS_s1 hF_s1 q16 => ?_))
    refine j_if_eq hx 53 dX12_readPlan_17 rfl (by omega) (fun h17 => ?_) (fun h17 => absurd h17 (by omega))
    refine j_iconst hx dX12_readPlan_53 ?_
    have g18 : zc (s1 (gP G a 28)) = zc (s0 (gP G a 28)) := by rw [hF_s1 (gP G a 28) (by rw [(zr (k := 28) (t2 := 85) hG ha rfl)]; decide)]
    have g19 : s1 (gP G a 28) 488 = s0 (gP G a 28) 488 := (by rw [(zFr_g hF_s1 (zr (k := 28) (t2 := 85) hG ha rfl) (by decide))])
    have f20 := zf hS_s1 ha (k := 21) rfl
    have f21 := zf hS_s1 ha (k := 22) rfl
    have f22 := zf hS_s1 ha (k := 23) rfl
    have f23 := zf hS_s1 ha (k := 24) rfl
    have f24 := zf hS_s1 ha (k := 51) rfl
    have f25 := zf hS_s1 ha (k := 52) rfl
    exact j_iret hx hq rfl (by decide) (by decide) dX12_readPlan_54 ⟨0, rfl, rfl, hS_s1, (zFr_t zFr_rf hF_s1 (by decide)), ⟨(by omega), (by have q1 : s1 (gP G a 34) = s0 (gP G a 34) := (by rw [hF_s1 (gP G a 34) (by rw [(zr (k := 34) (t2 := 91) hG ha rfl)]; decide)]); have q2 : s1 (gP G a 35) = s0 (gP G a 35) := (by rw [hF_s1 (gP G a 35) (by rw [(zr (k := 35) (t2 := 92) hG ha rfl)]; decide)]); have q3 : s1 (gP G a 37) = s0 (gP G a 37) := (by rw [hF_s1 (gP G a 37) (by rw [(zr (k := 37) (t2 := 94) hG ha rfl)]; decide)]); rw [q1, q2, q3]; exact e1), by omega, by omega, by omega, by omega, by omega, by omega, by omega, by omega⟩⟩
  · skip
    refine j_callV hx hG (c_X12_may_t hst a 1 1 0) lk_RX12_240 ha (by decide) rfl rfl rfl rfl [.int (zI 1), .int (zI 1), .int (zI 0)] ⟨rfl, hG, hS0, ha, (by omega), (by omega), (by omega), (by omega)⟩ rfl rfl ⟨by decide, by decide⟩ ⟨by decide, by decide⟩ (k2 := 0) (n2 := 0) rfl rfl (Nat.le_of_ble_eq_true rfl) dX12_readPlan_14 (kIP (fun v26 q27 => ?_))
    refine j_if_eq hx 53 dX12_readPlan_17 rfl (by omega) (fun h28 => absurd h28 (by omega)) (fun h28 => ?_)
    refine j_aload_n hx 0 dX12_readPlan_20 rfl ?_
    refine j_iload_n hx 2 dX12_readPlan_21 rfl ?_
    refine j_if_lt hx 44 dX12_readPlan_22 rfl (by omega) (fun h29 => ?_) (fun h29 => ?_)
    · skip
      refine j_iconst hx dX12_readPlan_44 ?_
      refine j_iconst hx dX12_readPlan_45 ?_
      refine j_iconst hx dX12_readPlan_46 ?_
      have f30 := zf hS0 ha (k := 3) rfl
      have f31 := zf hS0 ha (k := 4) rfl
      have f32 := zf hS0 ha (k := 5) rfl
      have f33 := zf hS0 ha (k := 7) rfl
      have f34 := zf hS0 ha (k := 21) rfl
      have f35 := zf hS0 ha (k := 22) rfl
      have f36 := zf hS0 ha (k := 23) rfl
      have f37 := zf hS0 ha (k := 38) rfl
      have f38 := zf hS0 ha (k := 51) rfl
      have f39 := zf hS0 ha (k := 52) rfl
      refine j_callV hx hG (c_X12_may_f hst a 0 2 1) lk_RX12_240 ha (by decide) rfl rfl rfl rfl [.int (zI 0), .int (zI 2), .int (zI 1)] ⟨rfl, hG, hS0, ha, (by omega), (by omega), (by omega), (by omega)⟩ rfl rfl ⟨by decide, by decide⟩ ⟨by decide, by decide⟩ (k2 := 0) (n2 := 0) rfl rfl (Nat.le_of_ble_eq_true rfl) dX12_readPlan_47 (kIM (fun v40 s2 hS_s2 hF_s2 q41 => ?_))
      refine j_if_ne hx 55 dX12_readPlan_50 rfl (by omega) (fun h42 => absurd h42 (by omega)) (fun h42 => ?_)
      refine j_iconst hx dX12_readPlan_53 ?_
      have g43 : zc (s2 (gP G a 28)) = zc (s0 (gP G a 28)) := by rw [hF_s2 (gP G a 28) (by rw [(zr (k := 28) (t2 := 85) hG ha rfl)]; decide)]
      have g44 : s2 (gP G a 28) 488 = s0 (gP G a 28) 488 := (by rw [(zFr_g hF_s2 (zr (k := 28) (t2 := 85) hG ha rfl) (by decide))])
      have f45 := zf hS_s2 ha (k := 21) rfl
      have f46 := zf hS_s2 ha (k := 22) rfl
      have f47 := zf hS_s2 ha (k := 23) rfl
      have f48 := zf hS_s2 ha (k := 24) rfl
      have f49 := zf hS_s2 ha (k := 51) rfl
      have f50 := zf hS_s2 ha (k := 52) rfl
      exact j_iret hx hq rfl (by decide) (by decide) dX12_readPlan_54 ⟨0, rfl, rfl, hS_s2, (zFr_t zFr_rf hF_s2 (by decide)), ⟨(by omega), (by have q1 : s2 (gP G a 34) = s0 (gP G a 34) := (by rw [hF_s2 (gP G a 34) (by rw [(zr (k := 34) (t2 := 91) hG ha rfl)]; decide)]); have q2 : s2 (gP G a 35) = s0 (gP G a 35) := (by rw [hF_s2 (gP G a 35) (by rw [(zr (k := 35) (t2 := 92) hG ha rfl)]; decide)]); have q3 : s2 (gP G a 37) = s0 (gP G a 37) := (by rw [hF_s2 (gP G a 37) (by rw [(zr (k := 37) (t2 := 94) hG ha rfl)]; decide)]); rw [q1, q2, q3]; exact e1), by omega, by omega, by omega, by omega, by omega, by omega, by omega, by omega⟩⟩
    · skip
      refine j_iload_n hx 2 dX12_readPlan_25 rfl ?_
      refine j_aload_n hx 0 dX12_readPlan_26 rfl ?_
      have f51 := zf hS0 ha (k := 2) rfl
      refine g13_2 hx hG ha kf_RX12_134 rfl dX12_readPlan_27 ?_
      refine j_icmp_gt hx 44 dX12_readPlan_30 rfl (by omega) (by omega) (fun h52 => ?_) (fun h52 => ?_)
      · skip
        refine j_iconst hx dX12_readPlan_44 ?_
        refine j_iconst hx dX12_readPlan_45 ?_
        refine j_iconst hx dX12_readPlan_46 ?_
        have f53 := zf hS0 ha (k := 3) rfl
        have f54 := zf hS0 ha (k := 4) rfl
        have f55 := zf hS0 ha (k := 5) rfl
        have f56 := zf hS0 ha (k := 7) rfl
        have f57 := zf hS0 ha (k := 21) rfl
        have f58 := zf hS0 ha (k := 22) rfl
        have f59 := zf hS0 ha (k := 23) rfl
        have f60 := zf hS0 ha (k := 38) rfl
        have f61 := zf hS0 ha (k := 51) rfl
        have f62 := zf hS0 ha (k := 52) rfl
        refine j_callV hx hG (c_X12_may_f hst a 0 2 1) lk_RX12_240 ha (by decide) rfl rfl rfl rfl [.int (zI 0), .int (zI 2), .int (zI 1)] ⟨rfl, hG, hS0, ha, (by omega), (by omega), (by omega), (by omega)⟩ rfl rfl ⟨by decide, by decide⟩ ⟨by decide, by decide⟩ (k2 := 0) (n2 := 0) rfl rfl (Nat.le_of_ble_eq_true rfl) dX12_readPlan_47 (kIM (fun v63 s3 hS_s3 hF_s3 q64 => ?_))
        refine j_if_ne hx 55 dX12_readPlan_50 rfl (by omega) (fun h65 => absurd h65 (by omega)) (fun h65 => ?_)
        refine j_iconst hx dX12_readPlan_53 ?_
        have g66 : zc (s3 (gP G a 28)) = zc (s0 (gP G a 28)) := by rw [hF_s3 (gP G a 28) (by rw [(zr (k := 28) (t2 := 85) hG ha rfl)]; decide)]
        have g67 : s3 (gP G a 28) 488 = s0 (gP G a 28) 488 := (by rw [(zFr_g hF_s3 (zr (k := 28) (t2 := 85) hG ha rfl) (by decide))])
        have f68 := zf hS_s3 ha (k := 21) rfl
        have f69 := zf hS_s3 ha (k := 22) rfl
        have f70 := zf hS_s3 ha (k := 23) rfl
        have f71 := zf hS_s3 ha (k := 24) rfl
        have f72 := zf hS_s3 ha (k := 51) rfl
        have f73 := zf hS_s3 ha (k := 52) rfl
        exact j_iret hx hq rfl (by decide) (by decide) dX12_readPlan_54 ⟨0, rfl, rfl, hS_s3, (zFr_t zFr_rf hF_s3 (by decide)), ⟨(by omega), (by have q1 : s3 (gP G a 34) = s0 (gP G a 34) := (by rw [hF_s3 (gP G a 34) (by rw [(zr (k := 34) (t2 := 91) hG ha rfl)]; decide)]); have q2 : s3 (gP G a 35) = s0 (gP G a 35) := (by rw [hF_s3 (gP G a 35) (by rw [(zr (k := 35) (t2 := 92) hG ha rfl)]; decide)]); have q3 : s3 (gP G a 37) = s0 (gP G a 37) := (by rw [hF_s3 (gP G a 37) (by rw [(zr (k := 37) (t2 := 94) hG ha rfl)]; decide)]); rw [q1, q2, q3]; exact e1), by omega, by omega, by omega, by omega, by omega, by omega, by omega, by omega⟩⟩
      · skip
        refine j_iload_n hx 2 dX12_readPlan_33 rfl ?_
        refine j_sipush hx dX12_readPlan_34 rfl ?_
        refine j_icmp_gt hx 44 dX12_readPlan_37 rfl (by omega) ⟨by decide, by decide⟩ (fun h74 => ?_) (fun h74 => ?_)
        · skip
          refine j_iconst hx dX12_readPlan_44 ?_
          refine j_iconst hx dX12_readPlan_45 ?_
          refine j_iconst hx dX12_readPlan_46 ?_
          have f75 := zf hS0 ha (k := 3) rfl
          have f76 := zf hS0 ha (k := 4) rfl
          have f77 := zf hS0 ha (k := 5) rfl
          have f78 := zf hS0 ha (k := 7) rfl
          have f79 := zf hS0 ha (k := 21) rfl
          have f80 := zf hS0 ha (k := 22) rfl
          have f81 := zf hS0 ha (k := 23) rfl
          have f82 := zf hS0 ha (k := 38) rfl
          have f83 := zf hS0 ha (k := 51) rfl
          have f84 := zf hS0 ha (k := 52) rfl
          refine j_callV hx hG (c_X12_may_f hst a 0 2 1) lk_RX12_240 ha (by decide) rfl rfl rfl rfl [.int (zI 0), .int (zI 2), .int (zI 1)] ⟨rfl, hG, hS0, ha, (by omega), (by omega), (by omega), (by omega)⟩ rfl rfl ⟨by decide, by decide⟩ ⟨by decide, by decide⟩ (k2 := 0) (n2 := 0) rfl rfl (Nat.le_of_ble_eq_true rfl) dX12_readPlan_47 (kIM (fun v85 s4 hS_s4 hF_s4 q86 => ?_))
          refine j_if_ne hx 55 dX12_readPlan_50 rfl (by omega) (fun h87 => absurd h87 (by omega)) (fun h87 => ?_)
          refine j_iconst hx dX12_readPlan_53 ?_
          have g88 : zc (s4 (gP G a 28)) = zc (s0 (gP G a 28)) := by rw [hF_s4 (gP G a 28) (by rw [(zr (k := 28) (t2 := 85) hG ha rfl)]; decide)]
          have g89 : s4 (gP G a 28) 488 = s0 (gP G a 28) 488 := (by rw [(zFr_g hF_s4 (zr (k := 28) (t2 := 85) hG ha rfl) (by decide))])
          have f90 := zf hS_s4 ha (k := 21) rfl
          have f91 := zf hS_s4 ha (k := 22) rfl
          have f92 := zf hS_s4 ha (k := 23) rfl
          have f93 := zf hS_s4 ha (k := 24) rfl
          have f94 := zf hS_s4 ha (k := 51) rfl
          have f95 := zf hS_s4 ha (k := 52) rfl
          exact j_iret hx hq rfl (by decide) (by decide) dX12_readPlan_54 ⟨0, rfl, rfl, hS_s4, (zFr_t zFr_rf hF_s4 (by decide)), ⟨(by omega), (by have q1 : s4 (gP G a 34) = s0 (gP G a 34) := (by rw [hF_s4 (gP G a 34) (by rw [(zr (k := 34) (t2 := 91) hG ha rfl)]; decide)]); have q2 : s4 (gP G a 35) = s0 (gP G a 35) := (by rw [hF_s4 (gP G a 35) (by rw [(zr (k := 35) (t2 := 92) hG ha rfl)]; decide)]); have q3 : s4 (gP G a 37) = s0 (gP G a 37) := (by rw [hF_s4 (gP G a 37) (by rw [(zr (k := 37) (t2 := 94) hG ha rfl)]; decide)]); rw [q1, q2, q3]; exact e1), by omega, by omega, by omega, by omega, by omega, by omega, by omega, by omega⟩⟩
        · skip
          refine j_iconst hx dX12_readPlan_40 ?_
          refine j_goto hx 45 dX12_readPlan_41 rfl ?_
          refine j_iconst hx dX12_readPlan_45 ?_
          refine j_iconst hx dX12_readPlan_46 ?_
          refine j_callV hx hG (c_X12_may_t hst a 1 2 1) lk_RX12_240 ha (by decide) rfl rfl rfl rfl [.int (zI 1), .int (zI 2), .int (zI 1)] ⟨rfl, hG, hS0, ha, (by omega), (by omega), (by omega), (by omega)⟩ rfl rfl ⟨by decide, by decide⟩ ⟨by decide, by decide⟩ (k2 := 0) (n2 := 0) rfl rfl (Nat.le_of_ble_eq_true rfl) dX12_readPlan_47 (kIP (fun v96 q97 => ?_))
          refine j_if_ne hx 55 dX12_readPlan_50 rfl (by omega) (fun h98 => ?_) (fun h98 => absurd h98 (by omega))
          refine j_aload_n hx 0 dX12_readPlan_55 rfl ?_
          refine j_iload_n hx 2 dX12_readPlan_56 rfl ?_
          have f99 := zf hS0 ha (k := 21) rfl
          have f100 := zf hS0 ha (k := 22) rfl
          have f101 := zf hS0 ha (k := 23) rfl
          have f102 := zf hS0 ha (k := 38) rfl
          have f103 := zf hS0 ha (k := 51) rfl
          have f104 := zf hS0 ha (k := 52) rfl
          refine j_callV hx hG (c_X12_begins hst a x2) lk_RX12_244 ha (by decide) rfl rfl rfl rfl [.int (zI x2)] ⟨rfl, hG, hS0, ha, (by omega)⟩ rfl rfl ⟨by decide, by decide⟩ ⟨by decide, by decide⟩ (k2 := 0) (n2 := 0) rfl rfl (Nat.le_of_ble_eq_true rfl) dX12_readPlan_57 (kVM (fun s5 hS_s5 hF_s5 q106 => ?_))
          refine j_aload_n hx 0 dX12_readPlan_60 rfl ?_
          refine j_iconst hx dX12_readPlan_61 ?_
          refine p13_38 hx hG ha kf_RX12_269 dX12_readPlan_62 ?_
          obtain ⟨s6, e_s6⟩ : ∃ z, z = zU s5 a 38 0 := ⟨_, rfl⟩
          rw [← e_s6]
          have hS_s6 : zSK G s6 := by rw [e_s6]; exact zSK_F hS_s5 ha rfl rfl rfl (by omega)
          have g107 : s6 a 38 = 0 := (by rw [e_s6, zU_eq])
          have hP108 : zNv (s6 a 5) (s6 (gP G a 31)) (s6 (gP G a 32)) (s6 a 38) := (fun _ => zRv_n0 (by omega))
          refine j_aload_n hx 0 dX12_readPlan_65 rfl ?_
          have g109 : s6 a 7 = s5 a 7 := (by rw [e_s6, zU_at (Or.inr (by decide))])
          have g110 : s6 a 3 = s5 a 3 := (by rw [e_s6, zU_at (Or.inr (by decide))])
          have f111 := zf hS_s5 ha (k := 3) rfl
          have g112 : s6 a 4 = s5 a 4 := (by rw [e_s6, zU_at (Or.inr (by decide))])
          have g113 : s6 a 5 = s5 a 5 := (by rw [e_s6, zU_at (Or.inr (by decide))])
          have g114 : (s6 (gP G a 31)) = (s0 (gP G a 31)) := by rw [e_s6, zU_ne (zne ha (zr (k := 31) (t2 := 88) hG ha rfl) (by decide)), hF_s5 (gP G a 31) (by rw [(zr (k := 31) (t2 := 88) hG ha rfl)]; decide)]
          have g115 : zRp (s6 (gP G a 31)) 0 (s6 a 38).toNat = zRp (s0 (gP G a 31)) 0 ((0 : Int)).toNat := by rw [g114, show s6 a 38 = (0 : Int) by omega]
          have g116 : s6 a 0 = s5 a 0 := (by rw [e_s6, zU_at (Or.inr (by decide))])
          have f117 := zf hS_s5 ha (k := 0) rfl
          have g118 : s6 a 21 = s5 a 21 := (by rw [e_s6, zU_at (Or.inr (by decide))])
          have f119 := zf hS_s5 ha (k := 21) rfl
          have g120 : s6 a 22 = s5 a 22 := (by rw [e_s6, zU_at (Or.inr (by decide))])
          have f121 := zf hS_s5 ha (k := 22) rfl
          have g122 : s6 a 23 = s5 a 23 := (by rw [e_s6, zU_at (Or.inr (by decide))])
          have f123 := zf hS_s5 ha (k := 23) rfl
          have g124 : s6 a 24 = s5 a 24 := (by rw [e_s6, zU_at (Or.inr (by decide))])
          have f125 := zf hS_s5 ha (k := 24) rfl
          have g126 : s6 a 51 = s5 a 51 := (by rw [e_s6, zU_at (Or.inr (by decide))])
          have f127 := zf hS_s5 ha (k := 51) rfl
          have g128 : s6 a 52 = s5 a 52 := (by rw [e_s6, zU_at (Or.inr (by decide))])
          have f129 := zf hS_s5 ha (k := 52) rfl
          refine j_callV hx hG (c_X12_readAny_0 hst a) lk_RX12_289 ha (by decide) rfl rfl rfl rfl [] ⟨rfl, hG, hS_s6, ha, (((by rw [e_s6, zU_at (Or.inr (by decide))]) : s6 a 7 = s5 a 7).trans (by omega)), (by omega), (by omega), (by omega), ((zNv_k hP108 (by omega) (by omega)))⟩ rfl rfl ⟨by decide, by decide⟩ ⟨by decide, by decide⟩ (k2 := 0) (n2 := 0) rfl rfl (Nat.le_of_ble_eq_true rfl) dX12_readPlan_66 (kVM (fun s7 hS_s7 hF_s7 q131 => ?_))
          refine j_aload_n hx 0 dX12_readPlan_69 rfl ?_
          refine j_callV hx hG (c_X12_fine hst a) lk_RX12_166 ha (by decide) rfl rfl rfl rfl [] ⟨rfl, hG, hS_s7, ha⟩ rfl rfl ⟨by decide, by decide⟩ ⟨by decide, by decide⟩ (k2 := 0) (n2 := 0) rfl rfl (Nat.le_of_ble_eq_true rfl) dX12_readPlan_70 (kIP (fun v132 q133 => ?_))
          refine j_if_eq hx 92 dX12_readPlan_73 rfl (by omega) (fun h134 => ?_) (fun h134 => ?_)
          · skip
            refine j_aload_n hx 0 dX12_readPlan_92 rfl ?_
            refine j_iconst hx dX12_readPlan_93 ?_
            have f135 := zf hS_s7 ha (k := 0) rfl
            have f136 := zf hS_s7 ha (k := 3) rfl
            have f137 := zf hS_s7 ha (k := 4) rfl
            have f138 := zf hS_s7 ha (k := 5) rfl
            have f139 := zf hS_s7 ha (k := 21) rfl
            have f140 := zf hS_s7 ha (k := 22) rfl
            have f141 := zf hS_s7 ha (k := 23) rfl
            have f142 := zf hS_s7 ha (k := 24) rfl
            have f143 := zf hS_s7 ha (k := 38) rfl
            have f144 := zf hS_s7 ha (k := 51) rfl
            have f145 := zf hS_s7 ha (k := 52) rfl
            refine j_callV hx hG (c_X12_result hst a 1) lk_RX12_265 ha (by decide) rfl rfl rfl rfl [.int (zI 1)] ⟨rfl, hG, hS_s7, ha, (by omega)⟩ rfl rfl ⟨by decide, by decide⟩ ⟨by decide, by decide⟩ (k2 := 0) (n2 := 0) rfl rfl (Nat.le_of_ble_eq_true rfl) dX12_readPlan_94 (kIM (fun v146 s8 hS_s8 hF_s8 q147 => ?_))
            refine j_istore hx [(4, .int (zI v146)), (0, .ref a), (1, .int (zI x1)), (2, .int (zI x2)), (3, .int (zI x3))] dX12_readPlan_97 (by decide) rfl ?_
            refine j_aload_n hx 1 dX12_readPlan_99 rfl ?_
            have f148 := zf hS_s8 ha (k := 5) rfl
            refine g13_5 hx hG ha kf_RX12_137 rfl dX12_readPlan_100 ?_
            refine j_iconst hx dX12_readPlan_103 ?_
            refine j_icmp_eq hx 110 dX12_readPlan_104 rfl (by omega) ⟨by decide, by decide⟩ (fun h149 => ?_) (fun h149 => ?_)
            · skip
              refine j_aload_n hx 1 dX12_readPlan_110 rfl ?_
              refine g13_37 hx hG ha kf_RX12_86 dX12_readPlan_111 ?_
              refine j_iload_n hx 4 dX12_readPlan_114 rfl ?_
              refine j_aload_n hx 1 dX12_readPlan_115 rfl ?_
              have f150 := zf hS_s8 ha (k := 38) rfl
              refine g13_38 hx hG ha kf_RX12_269 rfl dX12_readPlan_116 ?_
              refine j_iast hx hG (zr (k := 37) (t2 := 94) hG ha rfl) (by decide) rfl (zlen hG (zr (k := 37) (t2 := 94) hG ha rfl) (n := 6) rfl rfl) (by omega) (by omega) (j := (x3).toNat) rfl dX12_readPlan_119 ?_
              obtain ⟨s9, e_s9⟩ : ∃ z, z = zU s8 (gP G a 37) (x3).toNat ((s8 a 38)) := ⟨_, rfl⟩
              rw [← e_s9]
              have hS_s9 : zSK G s9 := by rw [e_s9]; exact zSK_A hS_s8 (zr (k := 37) (t2 := 94) hG ha rfl) rfl rfl rfl (by omega)
              have g151 : s9 a 38 = s8 a 38 := (by rw [e_s9, zU_at (Or.inl (zne (zr (k := 37) (t2 := 94) hG ha rfl) ha (by decide)))])
              have hP152 : zUc (s9 (gP G a 37)) (s0 (gP G a 37)) x3 (s9 a 38) := zUc_nn (zUc_of e_s9 (by rw [hF_s8 (gP G a 37) (by rw [(zr (k := 37) (t2 := 94) hG ha rfl)]; decide), hF_s7 (gP G a 37) (by rw [(zr (k := 37) (t2 := 94) hG ha rfl)]; decide), e_s6, zU_ne (zne ha (zr (k := 37) (t2 := 94) hG ha rfl) (by decide)), hF_s5 (gP G a 37) (by rw [(zr (k := 37) (t2 := 94) hG ha rfl)]; decide)])) rfl (by omega)
              have hP153 : zPt (s9 (gP G a 34)) (s0 (gP G a 34)) (s9 (gP G a 31)) (150 * x3) 0 := zPt_0 (by rw [e_s9, zU_ne (zne (zr (k := 37) (t2 := 94) hG ha rfl) (zr (k := 34) (t2 := 91) hG ha rfl) (by decide)), hF_s8 (gP G a 34) (by rw [(zr (k := 34) (t2 := 91) hG ha rfl)]; decide), hF_s7 (gP G a 34) (by rw [(zr (k := 34) (t2 := 91) hG ha rfl)]; decide), e_s6, zU_ne (zne ha (zr (k := 34) (t2 := 91) hG ha rfl) (by decide)), hF_s5 (gP G a 34) (by rw [(zr (k := 34) (t2 := 91) hG ha rfl)]; decide)]) (by omega)
              have hP154 : zPt (s9 (gP G a 35)) (s0 (gP G a 35)) (s9 (gP G a 32)) (150 * x3) 0 := zPt_0 (by rw [e_s9, zU_ne (zne (zr (k := 37) (t2 := 94) hG ha rfl) (zr (k := 35) (t2 := 92) hG ha rfl) (by decide)), hF_s8 (gP G a 35) (by rw [(zr (k := 35) (t2 := 92) hG ha rfl)]; decide), hF_s7 (gP G a 35) (by rw [(zr (k := 35) (t2 := 92) hG ha rfl)]; decide), e_s6, zU_ne (zne ha (zr (k := 35) (t2 := 92) hG ha rfl) (by decide)), hF_s5 (gP G a 35) (by rw [(zr (k := 35) (t2 := 92) hG ha rfl)]; decide)]) (by omega)
              refine j_iconst hx dX12_readPlan_120 ?_
              refine j_istore hx [(5, .int (zI 0)), (4, .int (zI v146)), (0, .ref a), (1, .int (zI x1)), (2, .int (zI x2)), (3, .int (zI x3))] dX12_readPlan_121 (by decide) rfl ?_
              have c123_10 : ∀ (m_c123_10 : Nat) (v155 : Int) (s11 : zS), 2147483648 - v155 < m_c123_10 → (0 ≤ v155 ∧ v155 ≤ 150) → (zSK G s11) → (zFr [91, 92, 93] G s9 s11) → (v155 ≤ s9 a 38) → (zPt (s11 (gP G a 34)) (s0 (gP G a 34)) (s11 (gP G a 31)) (150 * x3) (v155)) → (zPt (s11 (gP G a 35)) (s0 (gP G a 35)) (s11 (gP G a 32)) (150 * x3) (v155)) → JJ X E 6 G s11 0 0 [(0, .ref a), (3, .int (zI x3)), (4, .int (zI v146)), (5, .int (zI v155))] 123 [] := by
                intro m_c123_10
                induction m_c123_10 with
                | zero => intro v155 s11 hm_c123_10 fA12 hS_s11 hF_s11 fA15 fA16 fA17; exfalso; omega
                | succ m_c123_10 ih_c123_10 => 
                  intro v155 s11 hm_c123_10 fA12 hS_s11 hF_s11 fA15 fA16 fA17
                  refine j_iload hx 3 dX12_readPlan_123 rfl ?_
                  refine j_aload_n hx 0 dX12_readPlan_125 rfl ?_
                  refine g13_38 hx hG ha kf_RX12_269 (v := (s8 a 38)) (by rw [(zFr_g hF_s11 ha (by decide)), e_s9, zU_at (Or.inl (zne (zr (k := 37) (t2 := 94) hG ha rfl) ha (by decide)))]) dX12_readPlan_126 ?_
                  refine j_icmp_ge hx 198 dX12_readPlan_129 rfl (by omega) (by omega) (fun h156 => ?_) (fun h156 => ?_)
                  · skip
                    have g157 : s11 a 38 = s8 a 38 := (by rw [(zFr_g hF_s11 ha (by decide)), e_s9, zU_at (Or.inl (zne (zr (k := 37) (t2 := 94) hG ha rfl) ha (by decide)))])
                    have g158 : s11 a 5 = s8 a 5 := (by rw [(zFr_g hF_s11 ha (by decide)), e_s9, zU_at (Or.inl (zne (zr (k := 37) (t2 := 94) hG ha rfl) ha (by decide)))])
                    have hP159 : zRva (s11 (gP G a 34)) (s11 (gP G a 35)) (s11 (gP G a 37)) := zRva_in (show zRva (s0 (gP G a 34)) (s0 (gP G a 35)) (s0 (gP G a 37)) from e1) (show zPt (s11 (gP G a 34)) (s0 (gP G a 34)) (s11 (gP G a 31)) (150 * x3) (s11 a 38) from (zPt_nn fA16 (by omega) (by omega))) (show zPt (s11 (gP G a 35)) (s0 (gP G a 35)) (s11 (gP G a 32)) (150 * x3) (s11 a 38) from (zPt_nn fA17 (by omega) (by omega))) (show zUc (s11 (gP G a 37)) (s0 (gP G a 37)) x3 (s11 a 38) from (by have q1 : s11 (gP G a 37) = s9 (gP G a 37) := (by rw [hF_s11 (gP G a 37) (by rw [(zr (k := 37) (t2 := 94) hG ha rfl)]; decide)]); rw [q1]; exact (zUc_nn hP152 (by omega) (by omega)))) ((show zNv (s11 a 5) (s11 (gP G a 31)) (s11 (gP G a 32)) (s11 a 38) from (by have q1 : s11 (gP G a 31) = s7 (gP G a 31) := (by rw [hF_s11 (gP G a 31) (by rw [(zr (k := 31) (t2 := 88) hG ha rfl)]; decide), e_s9, zU_ne (zne (zr (k := 37) (t2 := 94) hG ha rfl) (zr (k := 31) (t2 := 88) hG ha rfl) (by decide)), hF_s8 (gP G a 31) (by rw [(zr (k := 31) (t2 := 88) hG ha rfl)]; decide)]); have q2 : s11 (gP G a 32) = s7 (gP G a 32) := (by rw [hF_s11 (gP G a 32) (by rw [(zr (k := 32) (t2 := 89) hG ha rfl)]; decide), e_s9, zU_ne (zne (zr (k := 37) (t2 := 94) hG ha rfl) (zr (k := 32) (t2 := 89) hG ha rfl) (by decide)), hF_s8 (gP G a 32) (by rw [(zr (k := 32) (t2 := 89) hG ha rfl)]; decide)]); rw [q1, q2]; exact (zNv_k q131.2.2.2.2.2.1 (by omega) (by omega)))) (by omega)) (fun j hj => (za hS0 (zr (k := 37) (t2 := 94) hG ha rfl) (lo := 0) (hi := 150) rfl (by rw [zn hG (zr (k := 37) (t2 := 94) hG ha rfl) (n := 6) rfl]; exact hj)).2) (by omega)
                    refine j_aload_n hx 0 dX12_readPlan_198 rfl ?_
                    have g160 : zc (s11 (gP G a 27)) = zc (s0 (gP G a 27)) := by rw [hF_s11 (gP G a 27) (by rw [(zr (k := 27) (t2 := 84) hG ha rfl)]; decide), e_s9, zU_ne (zne (zr (k := 37) (t2 := 94) hG ha rfl) (zr (k := 27) (t2 := 84) hG ha rfl) (by decide)), hF_s8 (gP G a 27) (by rw [(zr (k := 27) (t2 := 84) hG ha rfl)]; decide), hF_s7 (gP G a 27) (by rw [(zr (k := 27) (t2 := 84) hG ha rfl)]; decide), e_s6, zU_ne (zne ha (zr (k := 27) (t2 := 84) hG ha rfl) (by decide)), hF_s5 (gP G a 27) (by rw [(zr (k := 27) (t2 := 84) hG ha rfl)]; decide)]
                    have g161 : s11 (gP G a 27) 488 = s0 (gP G a 27) 488 := (by rw [(zFr_g hF_s11 (zr (k := 27) (t2 := 84) hG ha rfl) (by decide)), e_s9, zU_at (Or.inl (zne (zr (k := 37) (t2 := 94) hG ha rfl) (zr (k := 27) (t2 := 84) hG ha rfl) (by decide))), (zFr_g hF_s8 (zr (k := 27) (t2 := 84) hG ha rfl) (by decide)), (zFr_g hF_s7 (zr (k := 27) (t2 := 84) hG ha rfl) (by decide)), e_s6, zU_at (Or.inl (zne ha (zr (k := 27) (t2 := 84) hG ha rfl) (by decide))), (zFr_g hF_s5 (zr (k := 27) (t2 := 84) hG ha rfl) (by decide))])
                    refine j_callV hx hG (c_X12_stays hst a) lk_RX12_207 ha (by decide) rfl rfl rfl rfl [] ⟨rfl, hG, hS_s11, ha⟩ rfl rfl ⟨by decide, by decide⟩ ⟨by decide, by decide⟩ (k2 := 0) (n2 := 0) rfl rfl (Nat.le_of_ble_eq_true rfl) dX12_readPlan_199 (kVM (fun s18 hS_s18 hF_s18 q163 => ?_))
                    refine j_iload hx 2 dX12_readPlan_202 rfl ?_
                    have g164 : s18 a 21 = s8 a 21 := (by rw [(zFr_g hF_s18 ha (by decide)), (zFr_g hF_s11 ha (by decide)), e_s9, zU_at (Or.inl (zne (zr (k := 37) (t2 := 94) hG ha rfl) ha (by decide)))])
                    have f165 := zf hS_s8 ha (k := 21) rfl
                    have g166 : s18 a 22 = s8 a 22 := (by rw [(zFr_g hF_s18 ha (by decide)), (zFr_g hF_s11 ha (by decide)), e_s9, zU_at (Or.inl (zne (zr (k := 37) (t2 := 94) hG ha rfl) ha (by decide)))])
                    have f167 := zf hS_s8 ha (k := 22) rfl
                    have g168 : s18 a 23 = s8 a 23 := (by rw [(zFr_g hF_s18 ha (by decide)), (zFr_g hF_s11 ha (by decide)), e_s9, zU_at (Or.inl (zne (zr (k := 37) (t2 := 94) hG ha rfl) ha (by decide)))])
                    have f169 := zf hS_s8 ha (k := 23) rfl
                    have g170 : s18 a 24 = s8 a 24 := (by rw [(zFr_g hF_s18 ha (by decide)), (zFr_g hF_s11 ha (by decide)), e_s9, zU_at (Or.inl (zne (zr (k := 37) (t2 := 94) hG ha rfl) ha (by decide)))])
                    have f171 := zf hS_s8 ha (k := 24) rfl
                    have g172 : s18 a 51 = s8 a 51 := (by rw [(zFr_g hF_s18 ha (by decide)), (zFr_g hF_s11 ha (by decide)), e_s9, zU_at (Or.inl (zne (zr (k := 37) (t2 := 94) hG ha rfl) ha (by decide)))])
                    have f173 := zf hS_s8 ha (k := 51) rfl
                    have g174 : s18 a 52 = s8 a 52 := (by rw [(zFr_g hF_s18 ha (by decide)), (zFr_g hF_s11 ha (by decide)), e_s9, zU_at (Or.inl (zne (zr (k := 37) (t2 := 94) hG ha rfl) ha (by decide)))])
                    have f175 := zf hS_s8 ha (k := 52) rfl
                    exact j_iret hx hq rfl (by decide) (by decide) dX12_readPlan_204 ⟨v146, rfl, rfl, hS_s18, (zFr_t (zFr_t (zFr_u (zFr_t (zFr_t (zFr_u (zFr_t zFr_rf hF_s5 (by decide)) e_s6 ha (by decide)) hF_s7 (by decide)) hF_s8 (by decide)) e_s9 (zr (k := 37) (t2 := 94) hG ha rfl) (by decide)) hF_s11 (by decide)) hF_s18 (by decide)), ⟨(by omega), (by have q1 : s18 (gP G a 34) = s11 (gP G a 34) := (by rw [hF_s18 (gP G a 34) (by rw [(zr (k := 34) (t2 := 91) hG ha rfl)]; decide)]); have q2 : s18 (gP G a 35) = s11 (gP G a 35) := (by rw [hF_s18 (gP G a 35) (by rw [(zr (k := 35) (t2 := 92) hG ha rfl)]; decide)]); have q3 : s18 (gP G a 37) = s11 (gP G a 37) := (by rw [hF_s18 (gP G a 37) (by rw [(zr (k := 37) (t2 := 94) hG ha rfl)]; decide)]); rw [q1, q2, q3]; exact hP159), by omega, by omega, by omega, by omega, by omega, by omega, by omega, by omega⟩⟩
                  · skip
                    refine j_aload_n hx 0 dX12_readPlan_132 rfl ?_
                    refine g13_34 hx hG ha kf_RX12_77 dX12_readPlan_133 ?_
                    refine j_sipush hx dX12_readPlan_136 rfl ?_
                    refine j_iload_n hx 1 dX12_readPlan_139 rfl ?_
                    refine j_imul hx (r := 150 * x3) dX12_readPlan_140 rfl ?_
                    refine j_iload hx 3 dX12_readPlan_141 rfl ?_
                    refine j_iadd hx (r := 150 * x3 + v155) dX12_readPlan_143 (by omega) ?_
                    refine j_aload_n hx 0 dX12_readPlan_144 rfl ?_
                    refine g13_31 hx hG ha kf_RX12_68 dX12_readPlan_145 ?_
                    refine j_iload hx 3 dX12_readPlan_148 rfl ?_
                    have f176 := zaI (j := (v155).toNat) hS_s7 (zr (k := 31) (t2 := 88) hG ha rfl) rfl (zlen hG (zr (k := 31) (t2 := 88) hG ha rfl) (n := 150) rfl rfl) (show 0 ≤ v155 by omega) (by omega) rfl
                    refine j_iald hx hG (zr (k := 31) (t2 := 88) hG ha rfl) (by decide) rfl (zlen hG (zr (k := 31) (t2 := 88) hG ha rfl) (n := 150) rfl rfl) (by omega) (by omega) (j := (v155).toNat) rfl (v := (s7 (gP G a 31) (v155).toNat)) (by rw [(zFr_g hF_s11 (zr (k := 31) (t2 := 88) hG ha rfl) (by decide)), e_s9, zU_at (Or.inl (zne (zr (k := 37) (t2 := 94) hG ha rfl) (zr (k := 31) (t2 := 88) hG ha rfl) (by decide))), (zFr_g hF_s8 (zr (k := 31) (t2 := 88) hG ha rfl) (by decide))]) dX12_readPlan_150 ?_
                    refine j_iast hx hG (zr (k := 34) (t2 := 91) hG ha rfl) (by decide) rfl (zlen hG (zr (k := 34) (t2 := 91) hG ha rfl) (n := 900) rfl rfl) (by omega) (by omega) (j := (150 * x3 + v155).toNat) rfl dX12_readPlan_151 ?_
                    obtain ⟨s19, e_s19⟩ : ∃ z, z = zU s11 (gP G a 34) (150 * x3 + v155).toNat ((s7 (gP G a 31) (v155).toNat)) := ⟨_, rfl⟩
                    rw [← e_s19]
                    have hS_s19 : zSK G s19 := by rw [e_s19]; exact zSK_A hS_s11 (zr (k := 34) (t2 := 91) hG ha rfl) rfl rfl rfl (by omega)
                    have g177 : s19 (gP G a 31) (v155).toNat = s7 (gP G a 31) (v155).toNat := (by rw [e_s19, zU_at (Or.inl (zne (zr (k := 34) (t2 := 91) hG ha rfl) (zr (k := 31) (t2 := 88) hG ha rfl) (by decide))), (zFr_g hF_s11 (zr (k := 31) (t2 := 88) hG ha rfl) (by decide)), e_s9, zU_at (Or.inl (zne (zr (k := 37) (t2 := 94) hG ha rfl) (zr (k := 31) (t2 := 88) hG ha rfl) (by decide))), (zFr_g hF_s8 (zr (k := 31) (t2 := 88) hG ha rfl) (by decide))])
                    have hP178 : zPt (s19 (gP G a 34)) (s0 (gP G a 34)) (s19 (gP G a 31)) (150 * x3) (v155 + 1) := zPt_s (by have q1 : s19 (gP G a 31) = s11 (gP G a 31) := (by rw [e_s19, zU_ne (zne (zr (k := 34) (t2 := 91) hG ha rfl) (zr (k := 31) (t2 := 88) hG ha rfl) (by decide))]); rw [q1]; exact (zPt_nn fA16 (by omega) (by omega))) e_s19 (by omega) (by omega) (by omega) (by omega)
                    refine j_aload_n hx 0 dX12_readPlan_152 rfl ?_
                    refine g13_35 hx hG ha kf_RX12_80 dX12_readPlan_153 ?_
                    refine j_sipush hx dX12_readPlan_156 rfl ?_
                    refine j_iload_n hx 1 dX12_readPlan_159 rfl ?_
                    refine j_imul hx (r := 150 * x3) dX12_readPlan_160 rfl ?_
                    refine j_iload hx 3 dX12_readPlan_161 rfl ?_
                    refine j_iadd hx (r := 150 * x3 + v155) dX12_readPlan_163 (by omega) ?_
                    refine j_aload_n hx 0 dX12_readPlan_164 rfl ?_
                    refine g13_32 hx hG ha kf_RX12_71 dX12_readPlan_165 ?_
                    refine j_iload hx 3 dX12_readPlan_168 rfl ?_
                    have f179 := zaI (j := (v155).toNat) hS_s7 (zr (k := 32) (t2 := 89) hG ha rfl) rfl (zlen hG (zr (k := 32) (t2 := 89) hG ha rfl) (n := 150) rfl rfl) (show 0 ≤ v155 by omega) (by omega) rfl
                    refine j_iald hx hG (zr (k := 32) (t2 := 89) hG ha rfl) (by decide) rfl (zlen hG (zr (k := 32) (t2 := 89) hG ha rfl) (n := 150) rfl rfl) (by omega) (by omega) (j := (v155).toNat) rfl (v := (s7 (gP G a 32) (v155).toNat)) (by rw [e_s19, zU_at (Or.inl (zne (zr (k := 34) (t2 := 91) hG ha rfl) (zr (k := 32) (t2 := 89) hG ha rfl) (by decide))), (zFr_g hF_s11 (zr (k := 32) (t2 := 89) hG ha rfl) (by decide)), e_s9, zU_at (Or.inl (zne (zr (k := 37) (t2 := 94) hG ha rfl) (zr (k := 32) (t2 := 89) hG ha rfl) (by decide))), (zFr_g hF_s8 (zr (k := 32) (t2 := 89) hG ha rfl) (by decide))]) dX12_readPlan_170 ?_
                    refine j_iast hx hG (zr (k := 35) (t2 := 92) hG ha rfl) (by decide) rfl (zlen hG (zr (k := 35) (t2 := 92) hG ha rfl) (n := 900) rfl rfl) (by omega) (by omega) (j := (150 * x3 + v155).toNat) rfl dX12_readPlan_171 ?_
                    obtain ⟨s20, e_s20⟩ : ∃ z, z = zU s19 (gP G a 35) (150 * x3 + v155).toNat ((s7 (gP G a 32) (v155).toNat)) := ⟨_, rfl⟩
                    rw [← e_s20]
                    have hS_s20 : zSK G s20 := by rw [e_s20]; exact zSK_A hS_s19 (zr (k := 35) (t2 := 92) hG ha rfl) rfl rfl rfl (by omega)
                    have g180 : s20 (gP G a 32) (v155).toNat = s7 (gP G a 32) (v155).toNat := (by rw [e_s20, zU_at (Or.inl (zne (zr (k := 35) (t2 := 92) hG ha rfl) (zr (k := 32) (t2 := 89) hG ha rfl) (by decide))), e_s19, zU_at (Or.inl (zne (zr (k := 34) (t2 := 91) hG ha rfl) (zr (k := 32) (t2 := 89) hG ha rfl) (by decide))), (zFr_g hF_s11 (zr (k := 32) (t2 := 89) hG ha rfl) (by decide)), e_s9, zU_at (Or.inl (zne (zr (k := 37) (t2 := 94) hG ha rfl) (zr (k := 32) (t2 := 89) hG ha rfl) (by decide))), (zFr_g hF_s8 (zr (k := 32) (t2 := 89) hG ha rfl) (by decide))])
                    have hP181 : zPt (s20 (gP G a 35)) (s0 (gP G a 35)) (s20 (gP G a 32)) (150 * x3) (v155 + 1) := zPt_s (by have q1 : s19 (gP G a 35) = s11 (gP G a 35) := (by rw [e_s19, zU_ne (zne (zr (k := 34) (t2 := 91) hG ha rfl) (zr (k := 35) (t2 := 92) hG ha rfl) (by decide))]); have q2 : s20 (gP G a 32) = s11 (gP G a 32) := (by rw [e_s20, zU_ne (zne (zr (k := 35) (t2 := 92) hG ha rfl) (zr (k := 32) (t2 := 89) hG ha rfl) (by decide)), e_s19, zU_ne (zne (zr (k := 34) (t2 := 91) hG ha rfl) (zr (k := 32) (t2 := 89) hG ha rfl) (by decide))]); rw [q1, q2]; exact (zPt_nn fA17 (by omega) (by omega))) e_s20 (by omega) (by omega) (by omega) (by omega)
                    refine j_aload_n hx 0 dX12_readPlan_172 rfl ?_
                    refine g13_36 hx hG ha kf_RX12_83 dX12_readPlan_173 ?_
                    refine j_sipush hx dX12_readPlan_176 rfl ?_
                    refine j_iload_n hx 1 dX12_readPlan_179 rfl ?_
                    refine j_imul hx (r := 150 * x3) dX12_readPlan_180 rfl ?_
                    refine j_iload hx 3 dX12_readPlan_181 rfl ?_
                    refine j_iadd hx (r := 150 * x3 + v155) dX12_readPlan_183 (by omega) ?_
                    refine j_aload_n hx 0 dX12_readPlan_184 rfl ?_
                    refine g13_33 hx hG ha kf_RX12_74 dX12_readPlan_185 ?_
                    refine j_iload hx 3 dX12_readPlan_188 rfl ?_
                    have f182 := zaI (j := (v155).toNat) hS_s7 (zr (k := 33) (t2 := 90) hG ha rfl) rfl (zlen hG (zr (k := 33) (t2 := 90) hG ha rfl) (n := 150) rfl rfl) (show 0 ≤ v155 by omega) (by omega) rfl
                    refine j_iald hx hG (zr (k := 33) (t2 := 90) hG ha rfl) (by decide) rfl (zlen hG (zr (k := 33) (t2 := 90) hG ha rfl) (n := 150) rfl rfl) (by omega) (by omega) (j := (v155).toNat) rfl (v := (s7 (gP G a 33) (v155).toNat)) (by rw [e_s20, zU_at (Or.inl (zne (zr (k := 35) (t2 := 92) hG ha rfl) (zr (k := 33) (t2 := 90) hG ha rfl) (by decide))), e_s19, zU_at (Or.inl (zne (zr (k := 34) (t2 := 91) hG ha rfl) (zr (k := 33) (t2 := 90) hG ha rfl) (by decide))), (zFr_g hF_s11 (zr (k := 33) (t2 := 90) hG ha rfl) (by decide)), e_s9, zU_at (Or.inl (zne (zr (k := 37) (t2 := 94) hG ha rfl) (zr (k := 33) (t2 := 90) hG ha rfl) (by decide))), (zFr_g hF_s8 (zr (k := 33) (t2 := 90) hG ha rfl) (by decide))]) dX12_readPlan_190 ?_
                    refine j_iast hx hG (zr (k := 36) (t2 := 93) hG ha rfl) (by decide) rfl (zlen hG (zr (k := 36) (t2 := 93) hG ha rfl) (n := 900) rfl rfl) (by omega) (by omega) (j := (150 * x3 + v155).toNat) rfl dX12_readPlan_191 ?_
                    obtain ⟨s21, e_s21⟩ : ∃ z, z = zU s20 (gP G a 36) (150 * x3 + v155).toNat ((s7 (gP G a 33) (v155).toNat)) := ⟨_, rfl⟩
                    rw [← e_s21]
                    have hS_s21 : zSK G s21 := by rw [e_s21]; exact zSK_A hS_s20 (zr (k := 36) (t2 := 93) hG ha rfl) rfl rfl rfl (by omega)
                    refine j_iinc hx 3 [(5, .int (zI (v155 + 1))), (0, .ref a), (3, .int (zI x3)), (4, .int (zI v146))] dX12_readPlan_192 rfl (by omega) (by decide) rfl ?_
                    refine j_goto hx 123 dX12_readPlan_195 rfl ?_
                    exact j_sub [1, 2, 3, 0] [(0, .ref a), (3, .int (zI x3)), (4, .int (zI v146)), (5, .int (zI (v155 + 1)))] rfl (ih_c123_10 (v155 + 1) s21 (by omega) (by omega) hS_s21 (zFr_u (zFr_u (zFr_u (zFr_t zFr_rf hF_s11 (by decide)) e_s19 (zr (k := 34) (t2 := 91) hG ha rfl) (by decide)) e_s20 (zr (k := 35) (t2 := 92) hG ha rfl) (by decide)) e_s21 (zr (k := 36) (t2 := 93) hG ha rfl) (by decide)) (by omega) (by have q1 : s21 (gP G a 34) = s19 (gP G a 34) := (by rw [e_s21, zU_ne (zne (zr (k := 36) (t2 := 93) hG ha rfl) (zr (k := 34) (t2 := 91) hG ha rfl) (by decide)), e_s20, zU_ne (zne (zr (k := 35) (t2 := 92) hG ha rfl) (zr (k := 34) (t2 := 91) hG ha rfl) (by decide))]); have q2 : s21 (gP G a 31) = s19 (gP G a 31) := (by rw [e_s21, zU_ne (zne (zr (k := 36) (t2 := 93) hG ha rfl) (zr (k := 31) (t2 := 88) hG ha rfl) (by decide)), e_s20, zU_ne (zne (zr (k := 35) (t2 := 92) hG ha rfl) (zr (k := 31) (t2 := 88) hG ha rfl) (by decide))]); rw [q1, q2]; exact (zPt_nn hP178 (by omega) (by omega))) (by have q1 : s21 (gP G a 35) = s20 (gP G a 35) := (by rw [e_s21, zU_ne (zne (zr (k := 36) (t2 := 93) hG ha rfl) (zr (k := 35) (t2 := 92) hG ha rfl) (by decide))]); have q2 : s21 (gP G a 32) = s20 (gP G a 32) := (by rw [e_s21, zU_ne (zne (zr (k := 36) (t2 := 93) hG ha rfl) (zr (k := 32) (t2 := 89) hG ha rfl) (by decide))]); rw [q1, q2]; exact (zPt_nn hP181 (by omega) (by omega))))
              exact j_sub [2, 5, 1, 0] [(0, .ref a), (3, .int (zI x3)), (4, .int (zI v146)), (5, .int (zI 0))] rfl (c123_10 (2147483648 * 4) 0 s9 (by omega) (by omega) hS_s9 zFr_rf (by omega) (zPt_nn hP153 (by omega) (by omega)) (zPt_nn hP154 (by omega) (by omega)))
            · skip
              refine j_iload hx 0 dX12_readPlan_107 rfl ?_
              have g183 : zc (s8 (gP G a 28)) = zc (s0 (gP G a 28)) := by rw [hF_s8 (gP G a 28) (by rw [(zr (k := 28) (t2 := 85) hG ha rfl)]; decide), hF_s7 (gP G a 28) (by rw [(zr (k := 28) (t2 := 85) hG ha rfl)]; decide), e_s6, zU_ne (zne ha (zr (k := 28) (t2 := 85) hG ha rfl) (by decide)), hF_s5 (gP G a 28) (by rw [(zr (k := 28) (t2 := 85) hG ha rfl)]; decide)]
              have g184 : s8 (gP G a 28) 488 = s0 (gP G a 28) 488 := (by rw [(zFr_g hF_s8 (zr (k := 28) (t2 := 85) hG ha rfl) (by decide)), (zFr_g hF_s7 (zr (k := 28) (t2 := 85) hG ha rfl) (by decide)), e_s6, zU_at (Or.inl (zne ha (zr (k := 28) (t2 := 85) hG ha rfl) (by decide))), (zFr_g hF_s5 (zr (k := 28) (t2 := 85) hG ha rfl) (by decide))])
              have f185 := zf hS_s8 ha (k := 21) rfl
              have f186 := zf hS_s8 ha (k := 22) rfl
              have f187 := zf hS_s8 ha (k := 23) rfl
              have f188 := zf hS_s8 ha (k := 24) rfl
              have f189 := zf hS_s8 ha (k := 51) rfl
              have f190 := zf hS_s8 ha (k := 52) rfl
              exact j_iret hx hq rfl (by decide) (by decide) dX12_readPlan_109 ⟨v146, rfl, rfl, hS_s8, (zFr_t (zFr_t (zFr_u (zFr_t zFr_rf hF_s5 (by decide)) e_s6 ha (by decide)) hF_s7 (by decide)) hF_s8 (by decide)), ⟨(by omega), (by have q1 : s8 (gP G a 34) = s0 (gP G a 34) := (by rw [hF_s8 (gP G a 34) (by rw [(zr (k := 34) (t2 := 91) hG ha rfl)]; decide), hF_s7 (gP G a 34) (by rw [(zr (k := 34) (t2 := 91) hG ha rfl)]; decide), e_s6, zU_ne (zne ha (zr (k := 34) (t2 := 91) hG ha rfl) (by decide)), hF_s5 (gP G a 34) (by rw [(zr (k := 34) (t2 := 91) hG ha rfl)]; decide)]); have q2 : s8 (gP G a 35) = s0 (gP G a 35) := (by rw [hF_s8 (gP G a 35) (by rw [(zr (k := 35) (t2 := 92) hG ha rfl)]; decide), hF_s7 (gP G a 35) (by rw [(zr (k := 35) (t2 := 92) hG ha rfl)]; decide), e_s6, zU_ne (zne ha (zr (k := 35) (t2 := 92) hG ha rfl) (by decide)), hF_s5 (gP G a 35) (by rw [(zr (k := 35) (t2 := 92) hG ha rfl)]; decide)]); have q3 : s8 (gP G a 37) = s0 (gP G a 37) := (by rw [hF_s8 (gP G a 37) (by rw [(zr (k := 37) (t2 := 94) hG ha rfl)]; decide), hF_s7 (gP G a 37) (by rw [(zr (k := 37) (t2 := 94) hG ha rfl)]; decide), e_s6, zU_ne (zne ha (zr (k := 37) (t2 := 94) hG ha rfl) (by decide)), hF_s5 (gP G a 37) (by rw [(zr (k := 37) (t2 := 94) hG ha rfl)]; decide)]); rw [q1, q2, q3]; exact e1), by omega, by omega, by omega, by omega, by omega, by omega, by omega, by omega⟩⟩
          · skip
            refine j_aload_n hx 0 dX12_readPlan_76 rfl ?_
            have f191 := zf hS_s7 ha (k := 4) rfl
            have f192 := zf hS_s7 ha (k := 3) rfl
            have f193 := zf hS_s7 ha (k := 0) rfl
            have f194 := zf hS_s7 ha (k := 5) rfl
            have f195 := zf hS_s7 ha (k := 21) rfl
            have f196 := zf hS_s7 ha (k := 22) rfl
            have f197 := zf hS_s7 ha (k := 23) rfl
            have f198 := zf hS_s7 ha (k := 24) rfl
            have f199 := zf hS_s7 ha (k := 38) rfl
            have f200 := zf hS_s7 ha (k := 51) rfl
            have f201 := zf hS_s7 ha (k := 52) rfl
            refine j_callV hx hG (c_X12_isMore hst a) lk_RX12_247 ha (by decide) rfl rfl rfl rfl [] ⟨rfl, hG, hS_s7, ha, (by omega)⟩ rfl rfl ⟨by decide, by decide⟩ ⟨by decide, by decide⟩ (k2 := 0) (n2 := 0) rfl rfl (Nat.le_of_ble_eq_true rfl) dX12_readPlan_77 (kIM (fun v202 s22 hS_s22 hF_s22 q203 => ?_))
            refine j_if_eq hx 92 dX12_readPlan_80 rfl (by omega) (fun h204 => ?_) (fun h204 => ?_)
            · skip
              refine j_aload_n hx 0 dX12_readPlan_92 rfl ?_
              refine j_iconst hx dX12_readPlan_93 ?_
              have f205 := zf hS_s22 ha (k := 0) rfl
              have f206 := zf hS_s22 ha (k := 3) rfl
              have f207 := zf hS_s22 ha (k := 4) rfl
              have f208 := zf hS_s22 ha (k := 5) rfl
              have f209 := zf hS_s22 ha (k := 7) rfl
              have f210 := zf hS_s22 ha (k := 21) rfl
              have f211 := zf hS_s22 ha (k := 22) rfl
              have f212 := zf hS_s22 ha (k := 23) rfl
              have f213 := zf hS_s22 ha (k := 24) rfl
              have f214 := zf hS_s22 ha (k := 38) rfl
              have f215 := zf hS_s22 ha (k := 51) rfl
              have f216 := zf hS_s22 ha (k := 52) rfl
              refine j_callV hx hG (c_X12_result hst a 1) lk_RX12_265 ha (by decide) rfl rfl rfl rfl [.int (zI 1)] ⟨rfl, hG, hS_s22, ha, (by omega)⟩ rfl rfl ⟨by decide, by decide⟩ ⟨by decide, by decide⟩ (k2 := 0) (n2 := 0) rfl rfl (Nat.le_of_ble_eq_true rfl) dX12_readPlan_94 (kIM (fun v217 s23 hS_s23 hF_s23 q218 => ?_))
              refine j_istore hx [(4, .int (zI v217)), (0, .ref a), (1, .int (zI x1)), (2, .int (zI x2)), (3, .int (zI x3))] dX12_readPlan_97 (by decide) rfl ?_
              refine j_aload_n hx 1 dX12_readPlan_99 rfl ?_
              have f219 := zf hS_s23 ha (k := 5) rfl
              refine g13_5 hx hG ha kf_RX12_137 rfl dX12_readPlan_100 ?_
              refine j_iconst hx dX12_readPlan_103 ?_
              refine j_icmp_eq hx 110 dX12_readPlan_104 rfl (by omega) ⟨by decide, by decide⟩ (fun h220 => ?_) (fun h220 => ?_)
              · skip
                refine j_aload_n hx 1 dX12_readPlan_110 rfl ?_
                refine g13_37 hx hG ha kf_RX12_86 dX12_readPlan_111 ?_
                refine j_iload_n hx 4 dX12_readPlan_114 rfl ?_
                refine j_aload_n hx 1 dX12_readPlan_115 rfl ?_
                have f221 := zf hS_s23 ha (k := 38) rfl
                refine g13_38 hx hG ha kf_RX12_269 rfl dX12_readPlan_116 ?_
                refine j_iast hx hG (zr (k := 37) (t2 := 94) hG ha rfl) (by decide) rfl (zlen hG (zr (k := 37) (t2 := 94) hG ha rfl) (n := 6) rfl rfl) (by omega) (by omega) (j := (x3).toNat) rfl dX12_readPlan_119 ?_
                obtain ⟨s24, e_s24⟩ : ∃ z, z = zU s23 (gP G a 37) (x3).toNat ((s23 a 38)) := ⟨_, rfl⟩
                rw [← e_s24]
                have hS_s24 : zSK G s24 := by rw [e_s24]; exact zSK_A hS_s23 (zr (k := 37) (t2 := 94) hG ha rfl) rfl rfl rfl (by omega)
                have g222 : s24 a 38 = s23 a 38 := (by rw [e_s24, zU_at (Or.inl (zne (zr (k := 37) (t2 := 94) hG ha rfl) ha (by decide)))])
                have hP223 : zUc (s24 (gP G a 37)) (s0 (gP G a 37)) x3 (s24 a 38) := zUc_nn (zUc_of e_s24 (by rw [hF_s23 (gP G a 37) (by rw [(zr (k := 37) (t2 := 94) hG ha rfl)]; decide), hF_s22 (gP G a 37) (by rw [(zr (k := 37) (t2 := 94) hG ha rfl)]; decide), hF_s7 (gP G a 37) (by rw [(zr (k := 37) (t2 := 94) hG ha rfl)]; decide), e_s6, zU_ne (zne ha (zr (k := 37) (t2 := 94) hG ha rfl) (by decide)), hF_s5 (gP G a 37) (by rw [(zr (k := 37) (t2 := 94) hG ha rfl)]; decide)])) rfl (by omega)
                have hP224 : zPt (s24 (gP G a 34)) (s0 (gP G a 34)) (s24 (gP G a 31)) (150 * x3) 0 := zPt_0 (by rw [e_s24, zU_ne (zne (zr (k := 37) (t2 := 94) hG ha rfl) (zr (k := 34) (t2 := 91) hG ha rfl) (by decide)), hF_s23 (gP G a 34) (by rw [(zr (k := 34) (t2 := 91) hG ha rfl)]; decide), hF_s22 (gP G a 34) (by rw [(zr (k := 34) (t2 := 91) hG ha rfl)]; decide), hF_s7 (gP G a 34) (by rw [(zr (k := 34) (t2 := 91) hG ha rfl)]; decide), e_s6, zU_ne (zne ha (zr (k := 34) (t2 := 91) hG ha rfl) (by decide)), hF_s5 (gP G a 34) (by rw [(zr (k := 34) (t2 := 91) hG ha rfl)]; decide)]) (by omega)
                have hP225 : zPt (s24 (gP G a 35)) (s0 (gP G a 35)) (s24 (gP G a 32)) (150 * x3) 0 := zPt_0 (by rw [e_s24, zU_ne (zne (zr (k := 37) (t2 := 94) hG ha rfl) (zr (k := 35) (t2 := 92) hG ha rfl) (by decide)), hF_s23 (gP G a 35) (by rw [(zr (k := 35) (t2 := 92) hG ha rfl)]; decide), hF_s22 (gP G a 35) (by rw [(zr (k := 35) (t2 := 92) hG ha rfl)]; decide), hF_s7 (gP G a 35) (by rw [(zr (k := 35) (t2 := 92) hG ha rfl)]; decide), e_s6, zU_ne (zne ha (zr (k := 35) (t2 := 92) hG ha rfl) (by decide)), hF_s5 (gP G a 35) (by rw [(zr (k := 35) (t2 := 92) hG ha rfl)]; decide)]) (by omega)
                refine j_iconst hx dX12_readPlan_120 ?_
                refine j_istore hx [(5, .int (zI 0)), (4, .int (zI v217)), (0, .ref a), (1, .int (zI x1)), (2, .int (zI x2)), (3, .int (zI x3))] dX12_readPlan_121 (by decide) rfl ?_
                have c123_25 : ∀ (m_c123_25 : Nat) (v226 : Int) (s26 : zS), 2147483648 - v226 < m_c123_25 → (0 ≤ v226 ∧ v226 ≤ 150) → (zSK G s26) → (zFr [91, 92, 93] G s24 s26) → (v226 ≤ s24 a 38) → (zPt (s26 (gP G a 34)) (s0 (gP G a 34)) (s26 (gP G a 31)) (150 * x3) (v226)) → (zPt (s26 (gP G a 35)) (s0 (gP G a 35)) (s26 (gP G a 32)) (150 * x3) (v226)) → JJ X E 6 G s26 0 0 [(0, .ref a), (3, .int (zI x3)), (4, .int (zI v217)), (5, .int (zI v226))] 123 [] := by
                  intro m_c123_25
                  induction m_c123_25 with
                  | zero => intro v226 s26 hm_c123_25 fA27 hS_s26 hF_s26 fA30 fA31 fA32; exfalso; omega
                  | succ m_c123_25 ih_c123_25 => 
                    intro v226 s26 hm_c123_25 fA27 hS_s26 hF_s26 fA30 fA31 fA32
                    refine j_iload hx 3 dX12_readPlan_123 rfl ?_
                    refine j_aload_n hx 0 dX12_readPlan_125 rfl ?_
                    refine g13_38 hx hG ha kf_RX12_269 (v := (s23 a 38)) (by rw [(zFr_g hF_s26 ha (by decide)), e_s24, zU_at (Or.inl (zne (zr (k := 37) (t2 := 94) hG ha rfl) ha (by decide)))]) dX12_readPlan_126 ?_
                    refine j_icmp_ge hx 198 dX12_readPlan_129 rfl (by omega) (by omega) (fun h227 => ?_) (fun h227 => ?_)
                    · skip
                      have g228 : s26 a 38 = s23 a 38 := (by rw [(zFr_g hF_s26 ha (by decide)), e_s24, zU_at (Or.inl (zne (zr (k := 37) (t2 := 94) hG ha rfl) ha (by decide)))])
                      have g229 : s26 a 5 = s23 a 5 := (by rw [(zFr_g hF_s26 ha (by decide)), e_s24, zU_at (Or.inl (zne (zr (k := 37) (t2 := 94) hG ha rfl) ha (by decide)))])
                      have hP230 : zRva (s26 (gP G a 34)) (s26 (gP G a 35)) (s26 (gP G a 37)) := zRva_in (show zRva (s0 (gP G a 34)) (s0 (gP G a 35)) (s0 (gP G a 37)) from e1) (show zPt (s26 (gP G a 34)) (s0 (gP G a 34)) (s26 (gP G a 31)) (150 * x3) (s26 a 38) from (zPt_nn fA31 (by omega) (by omega))) (show zPt (s26 (gP G a 35)) (s0 (gP G a 35)) (s26 (gP G a 32)) (150 * x3) (s26 a 38) from (zPt_nn fA32 (by omega) (by omega))) (show zUc (s26 (gP G a 37)) (s0 (gP G a 37)) x3 (s26 a 38) from (by have q1 : s26 (gP G a 37) = s24 (gP G a 37) := (by rw [hF_s26 (gP G a 37) (by rw [(zr (k := 37) (t2 := 94) hG ha rfl)]; decide)]); rw [q1]; exact (zUc_nn hP223 (by omega) (by omega)))) ((show zNv (s26 a 5) (s26 (gP G a 31)) (s26 (gP G a 32)) (s26 a 38) from (by have q1 : s26 (gP G a 31) = s7 (gP G a 31) := (by rw [hF_s26 (gP G a 31) (by rw [(zr (k := 31) (t2 := 88) hG ha rfl)]; decide), e_s24, zU_ne (zne (zr (k := 37) (t2 := 94) hG ha rfl) (zr (k := 31) (t2 := 88) hG ha rfl) (by decide)), hF_s23 (gP G a 31) (by rw [(zr (k := 31) (t2 := 88) hG ha rfl)]; decide), hF_s22 (gP G a 31) (by rw [(zr (k := 31) (t2 := 88) hG ha rfl)]; decide)]); have q2 : s26 (gP G a 32) = s7 (gP G a 32) := (by rw [hF_s26 (gP G a 32) (by rw [(zr (k := 32) (t2 := 89) hG ha rfl)]; decide), e_s24, zU_ne (zne (zr (k := 37) (t2 := 94) hG ha rfl) (zr (k := 32) (t2 := 89) hG ha rfl) (by decide)), hF_s23 (gP G a 32) (by rw [(zr (k := 32) (t2 := 89) hG ha rfl)]; decide), hF_s22 (gP G a 32) (by rw [(zr (k := 32) (t2 := 89) hG ha rfl)]; decide)]); rw [q1, q2]; exact (zNv_k q131.2.2.2.2.2.1 (by omega) (by omega)))) (by omega)) (fun j hj => (za hS0 (zr (k := 37) (t2 := 94) hG ha rfl) (lo := 0) (hi := 150) rfl (by rw [zn hG (zr (k := 37) (t2 := 94) hG ha rfl) (n := 6) rfl]; exact hj)).2) (by omega)
                      refine j_aload_n hx 0 dX12_readPlan_198 rfl ?_
                      have g231 : zc (s26 (gP G a 27)) = zc (s0 (gP G a 27)) := by rw [hF_s26 (gP G a 27) (by rw [(zr (k := 27) (t2 := 84) hG ha rfl)]; decide), e_s24, zU_ne (zne (zr (k := 37) (t2 := 94) hG ha rfl) (zr (k := 27) (t2 := 84) hG ha rfl) (by decide)), hF_s23 (gP G a 27) (by rw [(zr (k := 27) (t2 := 84) hG ha rfl)]; decide), hF_s22 (gP G a 27) (by rw [(zr (k := 27) (t2 := 84) hG ha rfl)]; decide), hF_s7 (gP G a 27) (by rw [(zr (k := 27) (t2 := 84) hG ha rfl)]; decide), e_s6, zU_ne (zne ha (zr (k := 27) (t2 := 84) hG ha rfl) (by decide)), hF_s5 (gP G a 27) (by rw [(zr (k := 27) (t2 := 84) hG ha rfl)]; decide)]
                      have g232 : s26 (gP G a 27) 488 = s0 (gP G a 27) 488 := (by rw [(zFr_g hF_s26 (zr (k := 27) (t2 := 84) hG ha rfl) (by decide)), e_s24, zU_at (Or.inl (zne (zr (k := 37) (t2 := 94) hG ha rfl) (zr (k := 27) (t2 := 84) hG ha rfl) (by decide))), (zFr_g hF_s23 (zr (k := 27) (t2 := 84) hG ha rfl) (by decide)), (zFr_g hF_s22 (zr (k := 27) (t2 := 84) hG ha rfl) (by decide)), (zFr_g hF_s7 (zr (k := 27) (t2 := 84) hG ha rfl) (by decide)), e_s6, zU_at (Or.inl (zne ha (zr (k := 27) (t2 := 84) hG ha rfl) (by decide))), (zFr_g hF_s5 (zr (k := 27) (t2 := 84) hG ha rfl) (by decide))])
                      refine j_callV hx hG (c_X12_stays hst a) lk_RX12_207 ha (by decide) rfl rfl rfl rfl [] ⟨rfl, hG, hS_s26, ha⟩ rfl rfl ⟨by decide, by decide⟩ ⟨by decide, by decide⟩ (k2 := 0) (n2 := 0) rfl rfl (Nat.le_of_ble_eq_true rfl) dX12_readPlan_199 (kVM (fun s33 hS_s33 hF_s33 q234 => ?_))
                      refine j_iload hx 2 dX12_readPlan_202 rfl ?_
                      have g235 : s33 a 21 = s23 a 21 := (by rw [(zFr_g hF_s33 ha (by decide)), (zFr_g hF_s26 ha (by decide)), e_s24, zU_at (Or.inl (zne (zr (k := 37) (t2 := 94) hG ha rfl) ha (by decide)))])
                      have f236 := zf hS_s23 ha (k := 21) rfl
                      have g237 : s33 a 22 = s23 a 22 := (by rw [(zFr_g hF_s33 ha (by decide)), (zFr_g hF_s26 ha (by decide)), e_s24, zU_at (Or.inl (zne (zr (k := 37) (t2 := 94) hG ha rfl) ha (by decide)))])
                      have f238 := zf hS_s23 ha (k := 22) rfl
                      have g239 : s33 a 23 = s23 a 23 := (by rw [(zFr_g hF_s33 ha (by decide)), (zFr_g hF_s26 ha (by decide)), e_s24, zU_at (Or.inl (zne (zr (k := 37) (t2 := 94) hG ha rfl) ha (by decide)))])
                      have f240 := zf hS_s23 ha (k := 23) rfl
                      have g241 : s33 a 24 = s23 a 24 := (by rw [(zFr_g hF_s33 ha (by decide)), (zFr_g hF_s26 ha (by decide)), e_s24, zU_at (Or.inl (zne (zr (k := 37) (t2 := 94) hG ha rfl) ha (by decide)))])
                      have f242 := zf hS_s23 ha (k := 24) rfl
                      have g243 : s33 a 51 = s23 a 51 := (by rw [(zFr_g hF_s33 ha (by decide)), (zFr_g hF_s26 ha (by decide)), e_s24, zU_at (Or.inl (zne (zr (k := 37) (t2 := 94) hG ha rfl) ha (by decide)))])
                      have f244 := zf hS_s23 ha (k := 51) rfl
                      have g245 : s33 a 52 = s23 a 52 := (by rw [(zFr_g hF_s33 ha (by decide)), (zFr_g hF_s26 ha (by decide)), e_s24, zU_at (Or.inl (zne (zr (k := 37) (t2 := 94) hG ha rfl) ha (by decide)))])
                      have f246 := zf hS_s23 ha (k := 52) rfl
                      exact j_iret hx hq rfl (by decide) (by decide) dX12_readPlan_204 ⟨v217, rfl, rfl, hS_s33, (zFr_t (zFr_t (zFr_u (zFr_t (zFr_t (zFr_t (zFr_u (zFr_t zFr_rf hF_s5 (by decide)) e_s6 ha (by decide)) hF_s7 (by decide)) hF_s22 (by decide)) hF_s23 (by decide)) e_s24 (zr (k := 37) (t2 := 94) hG ha rfl) (by decide)) hF_s26 (by decide)) hF_s33 (by decide)), ⟨(by omega), (by have q1 : s33 (gP G a 34) = s26 (gP G a 34) := (by rw [hF_s33 (gP G a 34) (by rw [(zr (k := 34) (t2 := 91) hG ha rfl)]; decide)]); have q2 : s33 (gP G a 35) = s26 (gP G a 35) := (by rw [hF_s33 (gP G a 35) (by rw [(zr (k := 35) (t2 := 92) hG ha rfl)]; decide)]); have q3 : s33 (gP G a 37) = s26 (gP G a 37) := (by rw [hF_s33 (gP G a 37) (by rw [(zr (k := 37) (t2 := 94) hG ha rfl)]; decide)]); rw [q1, q2, q3]; exact hP230), by omega, by omega, by omega, by omega, by omega, by omega, by omega, by omega⟩⟩
                    · skip
                      refine j_aload_n hx 0 dX12_readPlan_132 rfl ?_
                      refine g13_34 hx hG ha kf_RX12_77 dX12_readPlan_133 ?_
                      refine j_sipush hx dX12_readPlan_136 rfl ?_
                      refine j_iload_n hx 1 dX12_readPlan_139 rfl ?_
                      refine j_imul hx (r := 150 * x3) dX12_readPlan_140 rfl ?_
                      refine j_iload hx 3 dX12_readPlan_141 rfl ?_
                      refine j_iadd hx (r := 150 * x3 + v226) dX12_readPlan_143 (by omega) ?_
                      refine j_aload_n hx 0 dX12_readPlan_144 rfl ?_
                      refine g13_31 hx hG ha kf_RX12_68 dX12_readPlan_145 ?_
                      refine j_iload hx 3 dX12_readPlan_148 rfl ?_
                      have f247 := zaI (j := (v226).toNat) hS_s7 (zr (k := 31) (t2 := 88) hG ha rfl) rfl (zlen hG (zr (k := 31) (t2 := 88) hG ha rfl) (n := 150) rfl rfl) (show 0 ≤ v226 by omega) (by omega) rfl
                      refine j_iald hx hG (zr (k := 31) (t2 := 88) hG ha rfl) (by decide) rfl (zlen hG (zr (k := 31) (t2 := 88) hG ha rfl) (n := 150) rfl rfl) (by omega) (by omega) (j := (v226).toNat) rfl (v := (s7 (gP G a 31) (v226).toNat)) (by rw [(zFr_g hF_s26 (zr (k := 31) (t2 := 88) hG ha rfl) (by decide)), e_s24, zU_at (Or.inl (zne (zr (k := 37) (t2 := 94) hG ha rfl) (zr (k := 31) (t2 := 88) hG ha rfl) (by decide))), (zFr_g hF_s23 (zr (k := 31) (t2 := 88) hG ha rfl) (by decide)), (zFr_g hF_s22 (zr (k := 31) (t2 := 88) hG ha rfl) (by decide))]) dX12_readPlan_150 ?_
                      refine j_iast hx hG (zr (k := 34) (t2 := 91) hG ha rfl) (by decide) rfl (zlen hG (zr (k := 34) (t2 := 91) hG ha rfl) (n := 900) rfl rfl) (by omega) (by omega) (j := (150 * x3 + v226).toNat) rfl dX12_readPlan_151 ?_
                      obtain ⟨s34, e_s34⟩ : ∃ z, z = zU s26 (gP G a 34) (150 * x3 + v226).toNat ((s7 (gP G a 31) (v226).toNat)) := ⟨_, rfl⟩
                      rw [← e_s34]
                      have hS_s34 : zSK G s34 := by rw [e_s34]; exact zSK_A hS_s26 (zr (k := 34) (t2 := 91) hG ha rfl) rfl rfl rfl (by omega)
                      have g248 : s34 (gP G a 31) (v226).toNat = s7 (gP G a 31) (v226).toNat := (by rw [e_s34, zU_at (Or.inl (zne (zr (k := 34) (t2 := 91) hG ha rfl) (zr (k := 31) (t2 := 88) hG ha rfl) (by decide))), (zFr_g hF_s26 (zr (k := 31) (t2 := 88) hG ha rfl) (by decide)), e_s24, zU_at (Or.inl (zne (zr (k := 37) (t2 := 94) hG ha rfl) (zr (k := 31) (t2 := 88) hG ha rfl) (by decide))), (zFr_g hF_s23 (zr (k := 31) (t2 := 88) hG ha rfl) (by decide)), (zFr_g hF_s22 (zr (k := 31) (t2 := 88) hG ha rfl) (by decide))])
                      have hP249 : zPt (s34 (gP G a 34)) (s0 (gP G a 34)) (s34 (gP G a 31)) (150 * x3) (v226 + 1) := zPt_s (by have q1 : s34 (gP G a 31) = s26 (gP G a 31) := (by rw [e_s34, zU_ne (zne (zr (k := 34) (t2 := 91) hG ha rfl) (zr (k := 31) (t2 := 88) hG ha rfl) (by decide))]); rw [q1]; exact (zPt_nn fA31 (by omega) (by omega))) e_s34 (by omega) (by omega) (by omega) (by omega)
                      refine j_aload_n hx 0 dX12_readPlan_152 rfl ?_
                      refine g13_35 hx hG ha kf_RX12_80 dX12_readPlan_153 ?_
                      refine j_sipush hx dX12_readPlan_156 rfl ?_
                      refine j_iload_n hx 1 dX12_readPlan_159 rfl ?_
                      refine j_imul hx (r := 150 * x3) dX12_readPlan_160 rfl ?_
                      refine j_iload hx 3 dX12_readPlan_161 rfl ?_
                      refine j_iadd hx (r := 150 * x3 + v226) dX12_readPlan_163 (by omega) ?_
                      refine j_aload_n hx 0 dX12_readPlan_164 rfl ?_
                      refine g13_32 hx hG ha kf_RX12_71 dX12_readPlan_165 ?_
                      refine j_iload hx 3 dX12_readPlan_168 rfl ?_
                      have f250 := zaI (j := (v226).toNat) hS_s7 (zr (k := 32) (t2 := 89) hG ha rfl) rfl (zlen hG (zr (k := 32) (t2 := 89) hG ha rfl) (n := 150) rfl rfl) (show 0 ≤ v226 by omega) (by omega) rfl
                      refine j_iald hx hG (zr (k := 32) (t2 := 89) hG ha rfl) (by decide) rfl (zlen hG (zr (k := 32) (t2 := 89) hG ha rfl) (n := 150) rfl rfl) (by omega) (by omega) (j := (v226).toNat) rfl (v := (s7 (gP G a 32) (v226).toNat)) (by rw [e_s34, zU_at (Or.inl (zne (zr (k := 34) (t2 := 91) hG ha rfl) (zr (k := 32) (t2 := 89) hG ha rfl) (by decide))), (zFr_g hF_s26 (zr (k := 32) (t2 := 89) hG ha rfl) (by decide)), e_s24, zU_at (Or.inl (zne (zr (k := 37) (t2 := 94) hG ha rfl) (zr (k := 32) (t2 := 89) hG ha rfl) (by decide))), (zFr_g hF_s23 (zr (k := 32) (t2 := 89) hG ha rfl) (by decide)), (zFr_g hF_s22 (zr (k := 32) (t2 := 89) hG ha rfl) (by decide))]) dX12_readPlan_170 ?_
                      refine j_iast hx hG (zr (k := 35) (t2 := 92) hG ha rfl) (by decide) rfl (zlen hG (zr (k := 35) (t2 := 92) hG ha rfl) (n := 900) rfl rfl) (by omega) (by omega) (j := (150 * x3 + v226).toNat) rfl dX12_readPlan_171 ?_
                      obtain ⟨s35, e_s35⟩ : ∃ z, z = zU s34 (gP G a 35) (150 * x3 + v226).toNat ((s7 (gP G a 32) (v226).toNat)) := ⟨_, rfl⟩
                      rw [← e_s35]
                      have hS_s35 : zSK G s35 := by rw [e_s35]; exact zSK_A hS_s34 (zr (k := 35) (t2 := 92) hG ha rfl) rfl rfl rfl (by omega)
                      have g251 : s35 (gP G a 32) (v226).toNat = s7 (gP G a 32) (v226).toNat := (by rw [e_s35, zU_at (Or.inl (zne (zr (k := 35) (t2 := 92) hG ha rfl) (zr (k := 32) (t2 := 89) hG ha rfl) (by decide))), e_s34, zU_at (Or.inl (zne (zr (k := 34) (t2 := 91) hG ha rfl) (zr (k := 32) (t2 := 89) hG ha rfl) (by decide))), (zFr_g hF_s26 (zr (k := 32) (t2 := 89) hG ha rfl) (by decide)), e_s24, zU_at (Or.inl (zne (zr (k := 37) (t2 := 94) hG ha rfl) (zr (k := 32) (t2 := 89) hG ha rfl) (by decide))), (zFr_g hF_s23 (zr (k := 32) (t2 := 89) hG ha rfl) (by decide)), (zFr_g hF_s22 (zr (k := 32) (t2 := 89) hG ha rfl) (by decide))])
                      have hP252 : zPt (s35 (gP G a 35)) (s0 (gP G a 35)) (s35 (gP G a 32)) (150 * x3) (v226 + 1) := zPt_s (by have q1 : s34 (gP G a 35) = s26 (gP G a 35) := (by rw [e_s34, zU_ne (zne (zr (k := 34) (t2 := 91) hG ha rfl) (zr (k := 35) (t2 := 92) hG ha rfl) (by decide))]); have q2 : s35 (gP G a 32) = s26 (gP G a 32) := (by rw [e_s35, zU_ne (zne (zr (k := 35) (t2 := 92) hG ha rfl) (zr (k := 32) (t2 := 89) hG ha rfl) (by decide)), e_s34, zU_ne (zne (zr (k := 34) (t2 := 91) hG ha rfl) (zr (k := 32) (t2 := 89) hG ha rfl) (by decide))]); rw [q1, q2]; exact (zPt_nn fA32 (by omega) (by omega))) e_s35 (by omega) (by omega) (by omega) (by omega)
                      refine j_aload_n hx 0 dX12_readPlan_172 rfl ?_
                      refine g13_36 hx hG ha kf_RX12_83 dX12_readPlan_173 ?_
                      refine j_sipush hx dX12_readPlan_176 rfl ?_
                      refine j_iload_n hx 1 dX12_readPlan_179 rfl ?_
                      refine j_imul hx (r := 150 * x3) dX12_readPlan_180 rfl ?_
                      refine j_iload hx 3 dX12_readPlan_181 rfl ?_
                      refine j_iadd hx (r := 150 * x3 + v226) dX12_readPlan_183 (by omega) ?_
                      refine j_aload_n hx 0 dX12_readPlan_184 rfl ?_
                      refine g13_33 hx hG ha kf_RX12_74 dX12_readPlan_185 ?_
                      refine j_iload hx 3 dX12_readPlan_188 rfl ?_
                      have f253 := zaI (j := (v226).toNat) hS_s7 (zr (k := 33) (t2 := 90) hG ha rfl) rfl (zlen hG (zr (k := 33) (t2 := 90) hG ha rfl) (n := 150) rfl rfl) (show 0 ≤ v226 by omega) (by omega) rfl
                      refine j_iald hx hG (zr (k := 33) (t2 := 90) hG ha rfl) (by decide) rfl (zlen hG (zr (k := 33) (t2 := 90) hG ha rfl) (n := 150) rfl rfl) (by omega) (by omega) (j := (v226).toNat) rfl (v := (s7 (gP G a 33) (v226).toNat)) (by rw [e_s35, zU_at (Or.inl (zne (zr (k := 35) (t2 := 92) hG ha rfl) (zr (k := 33) (t2 := 90) hG ha rfl) (by decide))), e_s34, zU_at (Or.inl (zne (zr (k := 34) (t2 := 91) hG ha rfl) (zr (k := 33) (t2 := 90) hG ha rfl) (by decide))), (zFr_g hF_s26 (zr (k := 33) (t2 := 90) hG ha rfl) (by decide)), e_s24, zU_at (Or.inl (zne (zr (k := 37) (t2 := 94) hG ha rfl) (zr (k := 33) (t2 := 90) hG ha rfl) (by decide))), (zFr_g hF_s23 (zr (k := 33) (t2 := 90) hG ha rfl) (by decide)), (zFr_g hF_s22 (zr (k := 33) (t2 := 90) hG ha rfl) (by decide))]) dX12_readPlan_190 ?_
                      refine j_iast hx hG (zr (k := 36) (t2 := 93) hG ha rfl) (by decide) rfl (zlen hG (zr (k := 36) (t2 := 93) hG ha rfl) (n := 900) rfl rfl) (by omega) (by omega) (j := (150 * x3 + v226).toNat) rfl dX12_readPlan_191 ?_
                      obtain ⟨s36, e_s36⟩ : ∃ z, z = zU s35 (gP G a 36) (150 * x3 + v226).toNat ((s7 (gP G a 33) (v226).toNat)) := ⟨_, rfl⟩
                      rw [← e_s36]
                      have hS_s36 : zSK G s36 := by rw [e_s36]; exact zSK_A hS_s35 (zr (k := 36) (t2 := 93) hG ha rfl) rfl rfl rfl (by omega)
                      refine j_iinc hx 3 [(5, .int (zI (v226 + 1))), (0, .ref a), (3, .int (zI x3)), (4, .int (zI v217))] dX12_readPlan_192 rfl (by omega) (by decide) rfl ?_
                      refine j_goto hx 123 dX12_readPlan_195 rfl ?_
                      exact j_sub [1, 2, 3, 0] [(0, .ref a), (3, .int (zI x3)), (4, .int (zI v217)), (5, .int (zI (v226 + 1)))] rfl (ih_c123_25 (v226 + 1) s36 (by omega) (by omega) hS_s36 (zFr_u (zFr_u (zFr_u (zFr_t zFr_rf hF_s26 (by decide)) e_s34 (zr (k := 34) (t2 := 91) hG ha rfl) (by decide)) e_s35 (zr (k := 35) (t2 := 92) hG ha rfl) (by decide)) e_s36 (zr (k := 36) (t2 := 93) hG ha rfl) (by decide)) (by omega) (by have q1 : s36 (gP G a 34) = s34 (gP G a 34) := (by rw [e_s36, zU_ne (zne (zr (k := 36) (t2 := 93) hG ha rfl) (zr (k := 34) (t2 := 91) hG ha rfl) (by decide)), e_s35, zU_ne (zne (zr (k := 35) (t2 := 92) hG ha rfl) (zr (k := 34) (t2 := 91) hG ha rfl) (by decide))]); have q2 : s36 (gP G a 31) = s34 (gP G a 31) := (by rw [e_s36, zU_ne (zne (zr (k := 36) (t2 := 93) hG ha rfl) (zr (k := 31) (t2 := 88) hG ha rfl) (by decide)), e_s35, zU_ne (zne (zr (k := 35) (t2 := 92) hG ha rfl) (zr (k := 31) (t2 := 88) hG ha rfl) (by decide))]); rw [q1, q2]; exact (zPt_nn hP249 (by omega) (by omega))) (by have q1 : s36 (gP G a 35) = s35 (gP G a 35) := (by rw [e_s36, zU_ne (zne (zr (k := 36) (t2 := 93) hG ha rfl) (zr (k := 35) (t2 := 92) hG ha rfl) (by decide))]); have q2 : s36 (gP G a 32) = s35 (gP G a 32) := (by rw [e_s36, zU_ne (zne (zr (k := 36) (t2 := 93) hG ha rfl) (zr (k := 32) (t2 := 89) hG ha rfl) (by decide))]); rw [q1, q2]; exact (zPt_nn hP252 (by omega) (by omega))))
                exact j_sub [2, 5, 1, 0] [(0, .ref a), (3, .int (zI x3)), (4, .int (zI v217)), (5, .int (zI 0))] rfl (c123_25 (2147483648 * 4) 0 s24 (by omega) (by omega) hS_s24 zFr_rf (by omega) (zPt_nn hP224 (by omega) (by omega)) (zPt_nn hP225 (by omega) (by omega)))
              · skip
                refine j_iload hx 0 dX12_readPlan_107 rfl ?_
                have g254 : zc (s23 (gP G a 28)) = zc (s0 (gP G a 28)) := by rw [hF_s23 (gP G a 28) (by rw [(zr (k := 28) (t2 := 85) hG ha rfl)]; decide), hF_s22 (gP G a 28) (by rw [(zr (k := 28) (t2 := 85) hG ha rfl)]; decide), hF_s7 (gP G a 28) (by rw [(zr (k := 28) (t2 := 85) hG ha rfl)]; decide), e_s6, zU_ne (zne ha (zr (k := 28) (t2 := 85) hG ha rfl) (by decide)), hF_s5 (gP G a 28) (by rw [(zr (k := 28) (t2 := 85) hG ha rfl)]; decide)]
                have g255 : s23 (gP G a 28) 488 = s0 (gP G a 28) 488 := (by rw [(zFr_g hF_s23 (zr (k := 28) (t2 := 85) hG ha rfl) (by decide)), (zFr_g hF_s22 (zr (k := 28) (t2 := 85) hG ha rfl) (by decide)), (zFr_g hF_s7 (zr (k := 28) (t2 := 85) hG ha rfl) (by decide)), e_s6, zU_at (Or.inl (zne ha (zr (k := 28) (t2 := 85) hG ha rfl) (by decide))), (zFr_g hF_s5 (zr (k := 28) (t2 := 85) hG ha rfl) (by decide))])
                have f256 := zf hS_s23 ha (k := 21) rfl
                have f257 := zf hS_s23 ha (k := 22) rfl
                have f258 := zf hS_s23 ha (k := 23) rfl
                have f259 := zf hS_s23 ha (k := 24) rfl
                have f260 := zf hS_s23 ha (k := 51) rfl
                have f261 := zf hS_s23 ha (k := 52) rfl
                exact j_iret hx hq rfl (by decide) (by decide) dX12_readPlan_109 ⟨v217, rfl, rfl, hS_s23, (zFr_t (zFr_t (zFr_t (zFr_u (zFr_t zFr_rf hF_s5 (by decide)) e_s6 ha (by decide)) hF_s7 (by decide)) hF_s22 (by decide)) hF_s23 (by decide)), ⟨(by omega), (by have q1 : s23 (gP G a 34) = s0 (gP G a 34) := (by rw [hF_s23 (gP G a 34) (by rw [(zr (k := 34) (t2 := 91) hG ha rfl)]; decide), hF_s22 (gP G a 34) (by rw [(zr (k := 34) (t2 := 91) hG ha rfl)]; decide), hF_s7 (gP G a 34) (by rw [(zr (k := 34) (t2 := 91) hG ha rfl)]; decide), e_s6, zU_ne (zne ha (zr (k := 34) (t2 := 91) hG ha rfl) (by decide)), hF_s5 (gP G a 34) (by rw [(zr (k := 34) (t2 := 91) hG ha rfl)]; decide)]); have q2 : s23 (gP G a 35) = s0 (gP G a 35) := (by rw [hF_s23 (gP G a 35) (by rw [(zr (k := 35) (t2 := 92) hG ha rfl)]; decide), hF_s22 (gP G a 35) (by rw [(zr (k := 35) (t2 := 92) hG ha rfl)]; decide), hF_s7 (gP G a 35) (by rw [(zr (k := 35) (t2 := 92) hG ha rfl)]; decide), e_s6, zU_ne (zne ha (zr (k := 35) (t2 := 92) hG ha rfl) (by decide)), hF_s5 (gP G a 35) (by rw [(zr (k := 35) (t2 := 92) hG ha rfl)]; decide)]); have q3 : s23 (gP G a 37) = s0 (gP G a 37) := (by rw [hF_s23 (gP G a 37) (by rw [(zr (k := 37) (t2 := 94) hG ha rfl)]; decide), hF_s22 (gP G a 37) (by rw [(zr (k := 37) (t2 := 94) hG ha rfl)]; decide), hF_s7 (gP G a 37) (by rw [(zr (k := 37) (t2 := 94) hG ha rfl)]; decide), e_s6, zU_ne (zne ha (zr (k := 37) (t2 := 94) hG ha rfl) (by decide)), hF_s5 (gP G a 37) (by rw [(zr (k := 37) (t2 := 94) hG ha rfl)]; decide)]); rw [q1, q2, q3]; exact e1), by omega, by omega, by omega, by omega, by omega, by omega, by omega, by omega⟩⟩
            · skip
              refine j_aload_n hx 0 dX12_readPlan_83 rfl ?_
              refine j_iconst hx dX12_readPlan_84 ?_
              refine j_aload_n hx 0 dX12_readPlan_85 rfl ?_
              have f262 := zf hS_s22 ha (k := 4) rfl
              refine g13_4 hx hG ha kf_RX12_143 rfl dX12_readPlan_86 ?_
              have f263 := zf hS_s22 ha (k := 5) rfl
              have f264 := zf hS_s22 ha (k := 0) rfl
              have f265 := zf hS_s22 ha (k := 3) rfl
              have f266 := zf hS_s22 ha (k := 7) rfl
              have f267 := zf hS_s22 ha (k := 21) rfl
              have f268 := zf hS_s22 ha (k := 22) rfl
              have f269 := zf hS_s22 ha (k := 23) rfl
              have f270 := zf hS_s22 ha (k := 24) rfl
              have f271 := zf hS_s22 ha (k := 38) rfl
              have f272 := zf hS_s22 ha (k := 51) rfl
              have f273 := zf hS_s22 ha (k := 52) rfl
              refine j_callV hx hG (c_X12_wrong hst a 1 ((s22 a 4))) lk_RX12_173 ha (by decide) rfl rfl rfl rfl [.int (zI 1), .int (zI ((s22 a 4)))] ⟨rfl, hG, hS_s22, ha, (by omega), (by omega)⟩ rfl rfl ⟨by decide, by decide⟩ ⟨by decide, by decide⟩ (k2 := 0) (n2 := 0) rfl rfl (Nat.le_of_ble_eq_true rfl) dX12_readPlan_89 (kVM (fun s37 hS_s37 hF_s37 q275 => ?_))
              refine j_aload_n hx 0 dX12_readPlan_92 rfl ?_
              refine j_iconst hx dX12_readPlan_93 ?_
              have f276 := zf hS_s37 ha (k := 0) rfl
              have f277 := zf hS_s37 ha (k := 3) rfl
              have f278 := zf hS_s37 ha (k := 4) rfl
              have f279 := zf hS_s37 ha (k := 5) rfl
              have f280 := zf hS_s37 ha (k := 7) rfl
              have f281 := zf hS_s37 ha (k := 21) rfl
              have f282 := zf hS_s37 ha (k := 22) rfl
              have f283 := zf hS_s37 ha (k := 23) rfl
              have f284 := zf hS_s37 ha (k := 24) rfl
              have f285 := zf hS_s37 ha (k := 38) rfl
              have f286 := zf hS_s37 ha (k := 51) rfl
              have f287 := zf hS_s37 ha (k := 52) rfl
              refine j_callV hx hG (c_X12_result hst a 1) lk_RX12_265 ha (by decide) rfl rfl rfl rfl [.int (zI 1)] ⟨rfl, hG, hS_s37, ha, (by omega)⟩ rfl rfl ⟨by decide, by decide⟩ ⟨by decide, by decide⟩ (k2 := 0) (n2 := 0) rfl rfl (Nat.le_of_ble_eq_true rfl) dX12_readPlan_94 (kIM (fun v288 s38 hS_s38 hF_s38 q289 => ?_))
              refine j_istore hx [(4, .int (zI v288)), (0, .ref a), (1, .int (zI x1)), (2, .int (zI x2)), (3, .int (zI x3))] dX12_readPlan_97 (by decide) rfl ?_
              refine j_aload_n hx 1 dX12_readPlan_99 rfl ?_
              have f290 := zf hS_s38 ha (k := 5) rfl
              refine g13_5 hx hG ha kf_RX12_137 rfl dX12_readPlan_100 ?_
              refine j_iconst hx dX12_readPlan_103 ?_
              refine j_icmp_eq hx 110 dX12_readPlan_104 rfl (by omega) ⟨by decide, by decide⟩ (fun h291 => ?_) (fun h291 => ?_)
              · skip
                refine j_aload_n hx 1 dX12_readPlan_110 rfl ?_
                refine g13_37 hx hG ha kf_RX12_86 dX12_readPlan_111 ?_
                refine j_iload_n hx 4 dX12_readPlan_114 rfl ?_
                refine j_aload_n hx 1 dX12_readPlan_115 rfl ?_
                have f292 := zf hS_s38 ha (k := 38) rfl
                refine g13_38 hx hG ha kf_RX12_269 rfl dX12_readPlan_116 ?_
                refine j_iast hx hG (zr (k := 37) (t2 := 94) hG ha rfl) (by decide) rfl (zlen hG (zr (k := 37) (t2 := 94) hG ha rfl) (n := 6) rfl rfl) (by omega) (by omega) (j := (x3).toNat) rfl dX12_readPlan_119 ?_
                obtain ⟨s39, e_s39⟩ : ∃ z, z = zU s38 (gP G a 37) (x3).toNat ((s38 a 38)) := ⟨_, rfl⟩
                rw [← e_s39]
                have hS_s39 : zSK G s39 := by rw [e_s39]; exact zSK_A hS_s38 (zr (k := 37) (t2 := 94) hG ha rfl) rfl rfl rfl (by omega)
                have g293 : s39 a 38 = s38 a 38 := (by rw [e_s39, zU_at (Or.inl (zne (zr (k := 37) (t2 := 94) hG ha rfl) ha (by decide)))])
                have hP294 : zUc (s39 (gP G a 37)) (s0 (gP G a 37)) x3 (s39 a 38) := zUc_nn (zUc_of e_s39 (by rw [hF_s38 (gP G a 37) (by rw [(zr (k := 37) (t2 := 94) hG ha rfl)]; decide), hF_s37 (gP G a 37) (by rw [(zr (k := 37) (t2 := 94) hG ha rfl)]; decide), hF_s22 (gP G a 37) (by rw [(zr (k := 37) (t2 := 94) hG ha rfl)]; decide), hF_s7 (gP G a 37) (by rw [(zr (k := 37) (t2 := 94) hG ha rfl)]; decide), e_s6, zU_ne (zne ha (zr (k := 37) (t2 := 94) hG ha rfl) (by decide)), hF_s5 (gP G a 37) (by rw [(zr (k := 37) (t2 := 94) hG ha rfl)]; decide)])) rfl (by omega)
                have hP295 : zPt (s39 (gP G a 34)) (s0 (gP G a 34)) (s39 (gP G a 31)) (150 * x3) 0 := zPt_0 (by rw [e_s39, zU_ne (zne (zr (k := 37) (t2 := 94) hG ha rfl) (zr (k := 34) (t2 := 91) hG ha rfl) (by decide)), hF_s38 (gP G a 34) (by rw [(zr (k := 34) (t2 := 91) hG ha rfl)]; decide), hF_s37 (gP G a 34) (by rw [(zr (k := 34) (t2 := 91) hG ha rfl)]; decide), hF_s22 (gP G a 34) (by rw [(zr (k := 34) (t2 := 91) hG ha rfl)]; decide), hF_s7 (gP G a 34) (by rw [(zr (k := 34) (t2 := 91) hG ha rfl)]; decide), e_s6, zU_ne (zne ha (zr (k := 34) (t2 := 91) hG ha rfl) (by decide)), hF_s5 (gP G a 34) (by rw [(zr (k := 34) (t2 := 91) hG ha rfl)]; decide)]) (by omega)
                have hP296 : zPt (s39 (gP G a 35)) (s0 (gP G a 35)) (s39 (gP G a 32)) (150 * x3) 0 := zPt_0 (by rw [e_s39, zU_ne (zne (zr (k := 37) (t2 := 94) hG ha rfl) (zr (k := 35) (t2 := 92) hG ha rfl) (by decide)), hF_s38 (gP G a 35) (by rw [(zr (k := 35) (t2 := 92) hG ha rfl)]; decide), hF_s37 (gP G a 35) (by rw [(zr (k := 35) (t2 := 92) hG ha rfl)]; decide), hF_s22 (gP G a 35) (by rw [(zr (k := 35) (t2 := 92) hG ha rfl)]; decide), hF_s7 (gP G a 35) (by rw [(zr (k := 35) (t2 := 92) hG ha rfl)]; decide), e_s6, zU_ne (zne ha (zr (k := 35) (t2 := 92) hG ha rfl) (by decide)), hF_s5 (gP G a 35) (by rw [(zr (k := 35) (t2 := 92) hG ha rfl)]; decide)]) (by omega)
                refine j_iconst hx dX12_readPlan_120 ?_
                refine j_istore hx [(5, .int (zI 0)), (4, .int (zI v288)), (0, .ref a), (1, .int (zI x1)), (2, .int (zI x2)), (3, .int (zI x3))] dX12_readPlan_121 (by decide) rfl ?_
                have c123_40 : ∀ (m_c123_40 : Nat) (v297 : Int) (s41 : zS), 2147483648 - v297 < m_c123_40 → (0 ≤ v297 ∧ v297 ≤ 150) → (zSK G s41) → (zFr [91, 92, 93] G s39 s41) → (v297 ≤ s39 a 38) → (zPt (s41 (gP G a 34)) (s0 (gP G a 34)) (s41 (gP G a 31)) (150 * x3) (v297)) → (zPt (s41 (gP G a 35)) (s0 (gP G a 35)) (s41 (gP G a 32)) (150 * x3) (v297)) → JJ X E 6 G s41 0 0 [(0, .ref a), (3, .int (zI x3)), (4, .int (zI v288)), (5, .int (zI v297))] 123 [] := by
                  intro m_c123_40
                  induction m_c123_40 with
                  | zero => intro v297 s41 hm_c123_40 fA42 hS_s41 hF_s41 fA45 fA46 fA47; exfalso; omega
                  | succ m_c123_40 ih_c123_40 => 
                    intro v297 s41 hm_c123_40 fA42 hS_s41 hF_s41 fA45 fA46 fA47
                    refine j_iload hx 3 dX12_readPlan_123 rfl ?_
                    refine j_aload_n hx 0 dX12_readPlan_125 rfl ?_
                    refine g13_38 hx hG ha kf_RX12_269 (v := (s38 a 38)) (by rw [(zFr_g hF_s41 ha (by decide)), e_s39, zU_at (Or.inl (zne (zr (k := 37) (t2 := 94) hG ha rfl) ha (by decide)))]) dX12_readPlan_126 ?_
                    refine j_icmp_ge hx 198 dX12_readPlan_129 rfl (by omega) (by omega) (fun h298 => ?_) (fun h298 => ?_)
                    · skip
                      have g299 : s41 a 38 = s38 a 38 := (by rw [(zFr_g hF_s41 ha (by decide)), e_s39, zU_at (Or.inl (zne (zr (k := 37) (t2 := 94) hG ha rfl) ha (by decide)))])
                      have g300 : s41 a 5 = s38 a 5 := (by rw [(zFr_g hF_s41 ha (by decide)), e_s39, zU_at (Or.inl (zne (zr (k := 37) (t2 := 94) hG ha rfl) ha (by decide)))])
                      have hP301 : zRva (s41 (gP G a 34)) (s41 (gP G a 35)) (s41 (gP G a 37)) := zRva_in (show zRva (s0 (gP G a 34)) (s0 (gP G a 35)) (s0 (gP G a 37)) from e1) (show zPt (s41 (gP G a 34)) (s0 (gP G a 34)) (s41 (gP G a 31)) (150 * x3) (s41 a 38) from (zPt_nn fA46 (by omega) (by omega))) (show zPt (s41 (gP G a 35)) (s0 (gP G a 35)) (s41 (gP G a 32)) (150 * x3) (s41 a 38) from (zPt_nn fA47 (by omega) (by omega))) (show zUc (s41 (gP G a 37)) (s0 (gP G a 37)) x3 (s41 a 38) from (by have q1 : s41 (gP G a 37) = s39 (gP G a 37) := (by rw [hF_s41 (gP G a 37) (by rw [(zr (k := 37) (t2 := 94) hG ha rfl)]; decide)]); rw [q1]; exact (zUc_nn hP294 (by omega) (by omega)))) ((show zNv (s41 a 5) (s41 (gP G a 31)) (s41 (gP G a 32)) (s41 a 38) from (by have q1 : s41 (gP G a 31) = s7 (gP G a 31) := (by rw [hF_s41 (gP G a 31) (by rw [(zr (k := 31) (t2 := 88) hG ha rfl)]; decide), e_s39, zU_ne (zne (zr (k := 37) (t2 := 94) hG ha rfl) (zr (k := 31) (t2 := 88) hG ha rfl) (by decide)), hF_s38 (gP G a 31) (by rw [(zr (k := 31) (t2 := 88) hG ha rfl)]; decide), hF_s37 (gP G a 31) (by rw [(zr (k := 31) (t2 := 88) hG ha rfl)]; decide), hF_s22 (gP G a 31) (by rw [(zr (k := 31) (t2 := 88) hG ha rfl)]; decide)]); have q2 : s41 (gP G a 32) = s7 (gP G a 32) := (by rw [hF_s41 (gP G a 32) (by rw [(zr (k := 32) (t2 := 89) hG ha rfl)]; decide), e_s39, zU_ne (zne (zr (k := 37) (t2 := 94) hG ha rfl) (zr (k := 32) (t2 := 89) hG ha rfl) (by decide)), hF_s38 (gP G a 32) (by rw [(zr (k := 32) (t2 := 89) hG ha rfl)]; decide), hF_s37 (gP G a 32) (by rw [(zr (k := 32) (t2 := 89) hG ha rfl)]; decide), hF_s22 (gP G a 32) (by rw [(zr (k := 32) (t2 := 89) hG ha rfl)]; decide)]); rw [q1, q2]; exact (zNv_k q131.2.2.2.2.2.1 (by omega) (by omega)))) (by omega)) (fun j hj => (za hS0 (zr (k := 37) (t2 := 94) hG ha rfl) (lo := 0) (hi := 150) rfl (by rw [zn hG (zr (k := 37) (t2 := 94) hG ha rfl) (n := 6) rfl]; exact hj)).2) (by omega)
                      refine j_aload_n hx 0 dX12_readPlan_198 rfl ?_
                      have g302 : zc (s41 (gP G a 27)) = zc (s0 (gP G a 27)) := by rw [hF_s41 (gP G a 27) (by rw [(zr (k := 27) (t2 := 84) hG ha rfl)]; decide), e_s39, zU_ne (zne (zr (k := 37) (t2 := 94) hG ha rfl) (zr (k := 27) (t2 := 84) hG ha rfl) (by decide)), hF_s38 (gP G a 27) (by rw [(zr (k := 27) (t2 := 84) hG ha rfl)]; decide), hF_s37 (gP G a 27) (by rw [(zr (k := 27) (t2 := 84) hG ha rfl)]; decide), hF_s22 (gP G a 27) (by rw [(zr (k := 27) (t2 := 84) hG ha rfl)]; decide), hF_s7 (gP G a 27) (by rw [(zr (k := 27) (t2 := 84) hG ha rfl)]; decide), e_s6, zU_ne (zne ha (zr (k := 27) (t2 := 84) hG ha rfl) (by decide)), hF_s5 (gP G a 27) (by rw [(zr (k := 27) (t2 := 84) hG ha rfl)]; decide)]
                      have g303 : s41 (gP G a 27) 488 = s0 (gP G a 27) 488 := (by rw [(zFr_g hF_s41 (zr (k := 27) (t2 := 84) hG ha rfl) (by decide)), e_s39, zU_at (Or.inl (zne (zr (k := 37) (t2 := 94) hG ha rfl) (zr (k := 27) (t2 := 84) hG ha rfl) (by decide))), (zFr_g hF_s38 (zr (k := 27) (t2 := 84) hG ha rfl) (by decide)), (zFr_g hF_s37 (zr (k := 27) (t2 := 84) hG ha rfl) (by decide)), (zFr_g hF_s22 (zr (k := 27) (t2 := 84) hG ha rfl) (by decide)), (zFr_g hF_s7 (zr (k := 27) (t2 := 84) hG ha rfl) (by decide)), e_s6, zU_at (Or.inl (zne ha (zr (k := 27) (t2 := 84) hG ha rfl) (by decide))), (zFr_g hF_s5 (zr (k := 27) (t2 := 84) hG ha rfl) (by decide))])
                      refine j_callV hx hG (c_X12_stays hst a) lk_RX12_207 ha (by decide) rfl rfl rfl rfl [] ⟨rfl, hG, hS_s41, ha⟩ rfl rfl ⟨by decide, by decide⟩ ⟨by decide, by decide⟩ (k2 := 0) (n2 := 0) rfl rfl (Nat.le_of_ble_eq_true rfl) dX12_readPlan_199 (kVM (fun s48 hS_s48 hF_s48 q305 => ?_))
                      refine j_iload hx 2 dX12_readPlan_202 rfl ?_
                      have g306 : s48 a 21 = s38 a 21 := (by rw [(zFr_g hF_s48 ha (by decide)), (zFr_g hF_s41 ha (by decide)), e_s39, zU_at (Or.inl (zne (zr (k := 37) (t2 := 94) hG ha rfl) ha (by decide)))])
                      have f307 := zf hS_s38 ha (k := 21) rfl
                      have g308 : s48 a 22 = s38 a 22 := (by rw [(zFr_g hF_s48 ha (by decide)), (zFr_g hF_s41 ha (by decide)), e_s39, zU_at (Or.inl (zne (zr (k := 37) (t2 := 94) hG ha rfl) ha (by decide)))])
                      have f309 := zf hS_s38 ha (k := 22) rfl
                      have g310 : s48 a 23 = s38 a 23 := (by rw [(zFr_g hF_s48 ha (by decide)), (zFr_g hF_s41 ha (by decide)), e_s39, zU_at (Or.inl (zne (zr (k := 37) (t2 := 94) hG ha rfl) ha (by decide)))])
                      have f311 := zf hS_s38 ha (k := 23) rfl
                      have g312 : s48 a 24 = s38 a 24 := (by rw [(zFr_g hF_s48 ha (by decide)), (zFr_g hF_s41 ha (by decide)), e_s39, zU_at (Or.inl (zne (zr (k := 37) (t2 := 94) hG ha rfl) ha (by decide)))])
                      have f313 := zf hS_s38 ha (k := 24) rfl
                      have g314 : s48 a 51 = s38 a 51 := (by rw [(zFr_g hF_s48 ha (by decide)), (zFr_g hF_s41 ha (by decide)), e_s39, zU_at (Or.inl (zne (zr (k := 37) (t2 := 94) hG ha rfl) ha (by decide)))])
                      have f315 := zf hS_s38 ha (k := 51) rfl
                      have g316 : s48 a 52 = s38 a 52 := (by rw [(zFr_g hF_s48 ha (by decide)), (zFr_g hF_s41 ha (by decide)), e_s39, zU_at (Or.inl (zne (zr (k := 37) (t2 := 94) hG ha rfl) ha (by decide)))])
                      have f317 := zf hS_s38 ha (k := 52) rfl
                      exact j_iret hx hq rfl (by decide) (by decide) dX12_readPlan_204 ⟨v288, rfl, rfl, hS_s48, (zFr_t (zFr_t (zFr_u (zFr_t (zFr_t (zFr_t (zFr_t (zFr_u (zFr_t zFr_rf hF_s5 (by decide)) e_s6 ha (by decide)) hF_s7 (by decide)) hF_s22 (by decide)) hF_s37 (by decide)) hF_s38 (by decide)) e_s39 (zr (k := 37) (t2 := 94) hG ha rfl) (by decide)) hF_s41 (by decide)) hF_s48 (by decide)), ⟨(by omega), (by have q1 : s48 (gP G a 34) = s41 (gP G a 34) := (by rw [hF_s48 (gP G a 34) (by rw [(zr (k := 34) (t2 := 91) hG ha rfl)]; decide)]); have q2 : s48 (gP G a 35) = s41 (gP G a 35) := (by rw [hF_s48 (gP G a 35) (by rw [(zr (k := 35) (t2 := 92) hG ha rfl)]; decide)]); have q3 : s48 (gP G a 37) = s41 (gP G a 37) := (by rw [hF_s48 (gP G a 37) (by rw [(zr (k := 37) (t2 := 94) hG ha rfl)]; decide)]); rw [q1, q2, q3]; exact hP301), by omega, by omega, by omega, by omega, by omega, by omega, by omega, by omega⟩⟩
                    · skip
                      refine j_aload_n hx 0 dX12_readPlan_132 rfl ?_
                      refine g13_34 hx hG ha kf_RX12_77 dX12_readPlan_133 ?_
                      refine j_sipush hx dX12_readPlan_136 rfl ?_
                      refine j_iload_n hx 1 dX12_readPlan_139 rfl ?_
                      refine j_imul hx (r := 150 * x3) dX12_readPlan_140 rfl ?_
                      refine j_iload hx 3 dX12_readPlan_141 rfl ?_
                      refine j_iadd hx (r := 150 * x3 + v297) dX12_readPlan_143 (by omega) ?_
                      refine j_aload_n hx 0 dX12_readPlan_144 rfl ?_
                      refine g13_31 hx hG ha kf_RX12_68 dX12_readPlan_145 ?_
                      refine j_iload hx 3 dX12_readPlan_148 rfl ?_
                      have f318 := zaI (j := (v297).toNat) hS_s7 (zr (k := 31) (t2 := 88) hG ha rfl) rfl (zlen hG (zr (k := 31) (t2 := 88) hG ha rfl) (n := 150) rfl rfl) (show 0 ≤ v297 by omega) (by omega) rfl
                      refine j_iald hx hG (zr (k := 31) (t2 := 88) hG ha rfl) (by decide) rfl (zlen hG (zr (k := 31) (t2 := 88) hG ha rfl) (n := 150) rfl rfl) (by omega) (by omega) (j := (v297).toNat) rfl (v := (s7 (gP G a 31) (v297).toNat)) (by rw [(zFr_g hF_s41 (zr (k := 31) (t2 := 88) hG ha rfl) (by decide)), e_s39, zU_at (Or.inl (zne (zr (k := 37) (t2 := 94) hG ha rfl) (zr (k := 31) (t2 := 88) hG ha rfl) (by decide))), (zFr_g hF_s38 (zr (k := 31) (t2 := 88) hG ha rfl) (by decide)), (zFr_g hF_s37 (zr (k := 31) (t2 := 88) hG ha rfl) (by decide)), (zFr_g hF_s22 (zr (k := 31) (t2 := 88) hG ha rfl) (by decide))]) dX12_readPlan_150 ?_
                      refine j_iast hx hG (zr (k := 34) (t2 := 91) hG ha rfl) (by decide) rfl (zlen hG (zr (k := 34) (t2 := 91) hG ha rfl) (n := 900) rfl rfl) (by omega) (by omega) (j := (150 * x3 + v297).toNat) rfl dX12_readPlan_151 ?_
                      obtain ⟨s49, e_s49⟩ : ∃ z, z = zU s41 (gP G a 34) (150 * x3 + v297).toNat ((s7 (gP G a 31) (v297).toNat)) := ⟨_, rfl⟩
                      rw [← e_s49]
                      have hS_s49 : zSK G s49 := by rw [e_s49]; exact zSK_A hS_s41 (zr (k := 34) (t2 := 91) hG ha rfl) rfl rfl rfl (by omega)
                      have g319 : s49 (gP G a 31) (v297).toNat = s7 (gP G a 31) (v297).toNat := (by rw [e_s49, zU_at (Or.inl (zne (zr (k := 34) (t2 := 91) hG ha rfl) (zr (k := 31) (t2 := 88) hG ha rfl) (by decide))), (zFr_g hF_s41 (zr (k := 31) (t2 := 88) hG ha rfl) (by decide)), e_s39, zU_at (Or.inl (zne (zr (k := 37) (t2 := 94) hG ha rfl) (zr (k := 31) (t2 := 88) hG ha rfl) (by decide))), (zFr_g hF_s38 (zr (k := 31) (t2 := 88) hG ha rfl) (by decide)), (zFr_g hF_s37 (zr (k := 31) (t2 := 88) hG ha rfl) (by decide)), (zFr_g hF_s22 (zr (k := 31) (t2 := 88) hG ha rfl) (by decide))])
                      have hP320 : zPt (s49 (gP G a 34)) (s0 (gP G a 34)) (s49 (gP G a 31)) (150 * x3) (v297 + 1) := zPt_s (by have q1 : s49 (gP G a 31) = s41 (gP G a 31) := (by rw [e_s49, zU_ne (zne (zr (k := 34) (t2 := 91) hG ha rfl) (zr (k := 31) (t2 := 88) hG ha rfl) (by decide))]); rw [q1]; exact (zPt_nn fA46 (by omega) (by omega))) e_s49 (by omega) (by omega) (by omega) (by omega)
                      refine j_aload_n hx 0 dX12_readPlan_152 rfl ?_
                      refine g13_35 hx hG ha kf_RX12_80 dX12_readPlan_153 ?_
                      refine j_sipush hx dX12_readPlan_156 rfl ?_
                      refine j_iload_n hx 1 dX12_readPlan_159 rfl ?_
                      refine j_imul hx (r := 150 * x3) dX12_readPlan_160 rfl ?_
                      refine j_iload hx 3 dX12_readPlan_161 rfl ?_
                      refine j_iadd hx (r := 150 * x3 + v297) dX12_readPlan_163 (by omega) ?_
                      refine j_aload_n hx 0 dX12_readPlan_164 rfl ?_
                      refine g13_32 hx hG ha kf_RX12_71 dX12_readPlan_165 ?_
                      refine j_iload hx 3 dX12_readPlan_168 rfl ?_
                      have f321 := zaI (j := (v297).toNat) hS_s7 (zr (k := 32) (t2 := 89) hG ha rfl) rfl (zlen hG (zr (k := 32) (t2 := 89) hG ha rfl) (n := 150) rfl rfl) (show 0 ≤ v297 by omega) (by omega) rfl
                      refine j_iald hx hG (zr (k := 32) (t2 := 89) hG ha rfl) (by decide) rfl (zlen hG (zr (k := 32) (t2 := 89) hG ha rfl) (n := 150) rfl rfl) (by omega) (by omega) (j := (v297).toNat) rfl (v := (s7 (gP G a 32) (v297).toNat)) (by rw [e_s49, zU_at (Or.inl (zne (zr (k := 34) (t2 := 91) hG ha rfl) (zr (k := 32) (t2 := 89) hG ha rfl) (by decide))), (zFr_g hF_s41 (zr (k := 32) (t2 := 89) hG ha rfl) (by decide)), e_s39, zU_at (Or.inl (zne (zr (k := 37) (t2 := 94) hG ha rfl) (zr (k := 32) (t2 := 89) hG ha rfl) (by decide))), (zFr_g hF_s38 (zr (k := 32) (t2 := 89) hG ha rfl) (by decide)), (zFr_g hF_s37 (zr (k := 32) (t2 := 89) hG ha rfl) (by decide)), (zFr_g hF_s22 (zr (k := 32) (t2 := 89) hG ha rfl) (by decide))]) dX12_readPlan_170 ?_
                      refine j_iast hx hG (zr (k := 35) (t2 := 92) hG ha rfl) (by decide) rfl (zlen hG (zr (k := 35) (t2 := 92) hG ha rfl) (n := 900) rfl rfl) (by omega) (by omega) (j := (150 * x3 + v297).toNat) rfl dX12_readPlan_171 ?_
                      obtain ⟨s50, e_s50⟩ : ∃ z, z = zU s49 (gP G a 35) (150 * x3 + v297).toNat ((s7 (gP G a 32) (v297).toNat)) := ⟨_, rfl⟩
                      rw [← e_s50]
                      have hS_s50 : zSK G s50 := by rw [e_s50]; exact zSK_A hS_s49 (zr (k := 35) (t2 := 92) hG ha rfl) rfl rfl rfl (by omega)
                      have g322 : s50 (gP G a 32) (v297).toNat = s7 (gP G a 32) (v297).toNat := (by rw [e_s50, zU_at (Or.inl (zne (zr (k := 35) (t2 := 92) hG ha rfl) (zr (k := 32) (t2 := 89) hG ha rfl) (by decide))), e_s49, zU_at (Or.inl (zne (zr (k := 34) (t2 := 91) hG ha rfl) (zr (k := 32) (t2 := 89) hG ha rfl) (by decide))), (zFr_g hF_s41 (zr (k := 32) (t2 := 89) hG ha rfl) (by decide)), e_s39, zU_at (Or.inl (zne (zr (k := 37) (t2 := 94) hG ha rfl) (zr (k := 32) (t2 := 89) hG ha rfl) (by decide))), (zFr_g hF_s38 (zr (k := 32) (t2 := 89) hG ha rfl) (by decide)), (zFr_g hF_s37 (zr (k := 32) (t2 := 89) hG ha rfl) (by decide)), (zFr_g hF_s22 (zr (k := 32) (t2 := 89) hG ha rfl) (by decide))])
                      have hP323 : zPt (s50 (gP G a 35)) (s0 (gP G a 35)) (s50 (gP G a 32)) (150 * x3) (v297 + 1) := zPt_s (by have q1 : s49 (gP G a 35) = s41 (gP G a 35) := (by rw [e_s49, zU_ne (zne (zr (k := 34) (t2 := 91) hG ha rfl) (zr (k := 35) (t2 := 92) hG ha rfl) (by decide))]); have q2 : s50 (gP G a 32) = s41 (gP G a 32) := (by rw [e_s50, zU_ne (zne (zr (k := 35) (t2 := 92) hG ha rfl) (zr (k := 32) (t2 := 89) hG ha rfl) (by decide)), e_s49, zU_ne (zne (zr (k := 34) (t2 := 91) hG ha rfl) (zr (k := 32) (t2 := 89) hG ha rfl) (by decide))]); rw [q1, q2]; exact (zPt_nn fA47 (by omega) (by omega))) e_s50 (by omega) (by omega) (by omega) (by omega)
                      refine j_aload_n hx 0 dX12_readPlan_172 rfl ?_
                      refine g13_36 hx hG ha kf_RX12_83 dX12_readPlan_173 ?_
                      refine j_sipush hx dX12_readPlan_176 rfl ?_
                      refine j_iload_n hx 1 dX12_readPlan_179 rfl ?_
                      refine j_imul hx (r := 150 * x3) dX12_readPlan_180 rfl ?_
                      refine j_iload hx 3 dX12_readPlan_181 rfl ?_
                      refine j_iadd hx (r := 150 * x3 + v297) dX12_readPlan_183 (by omega) ?_
                      refine j_aload_n hx 0 dX12_readPlan_184 rfl ?_
                      refine g13_33 hx hG ha kf_RX12_74 dX12_readPlan_185 ?_
                      refine j_iload hx 3 dX12_readPlan_188 rfl ?_
                      have f324 := zaI (j := (v297).toNat) hS_s7 (zr (k := 33) (t2 := 90) hG ha rfl) rfl (zlen hG (zr (k := 33) (t2 := 90) hG ha rfl) (n := 150) rfl rfl) (show 0 ≤ v297 by omega) (by omega) rfl
                      refine j_iald hx hG (zr (k := 33) (t2 := 90) hG ha rfl) (by decide) rfl (zlen hG (zr (k := 33) (t2 := 90) hG ha rfl) (n := 150) rfl rfl) (by omega) (by omega) (j := (v297).toNat) rfl (v := (s7 (gP G a 33) (v297).toNat)) (by rw [e_s50, zU_at (Or.inl (zne (zr (k := 35) (t2 := 92) hG ha rfl) (zr (k := 33) (t2 := 90) hG ha rfl) (by decide))), e_s49, zU_at (Or.inl (zne (zr (k := 34) (t2 := 91) hG ha rfl) (zr (k := 33) (t2 := 90) hG ha rfl) (by decide))), (zFr_g hF_s41 (zr (k := 33) (t2 := 90) hG ha rfl) (by decide)), e_s39, zU_at (Or.inl (zne (zr (k := 37) (t2 := 94) hG ha rfl) (zr (k := 33) (t2 := 90) hG ha rfl) (by decide))), (zFr_g hF_s38 (zr (k := 33) (t2 := 90) hG ha rfl) (by decide)), (zFr_g hF_s37 (zr (k := 33) (t2 := 90) hG ha rfl) (by decide)), (zFr_g hF_s22 (zr (k := 33) (t2 := 90) hG ha rfl) (by decide))]) dX12_readPlan_190 ?_
                      refine j_iast hx hG (zr (k := 36) (t2 := 93) hG ha rfl) (by decide) rfl (zlen hG (zr (k := 36) (t2 := 93) hG ha rfl) (n := 900) rfl rfl) (by omega) (by omega) (j := (150 * x3 + v297).toNat) rfl dX12_readPlan_191 ?_
                      obtain ⟨s51, e_s51⟩ : ∃ z, z = zU s50 (gP G a 36) (150 * x3 + v297).toNat ((s7 (gP G a 33) (v297).toNat)) := ⟨_, rfl⟩
                      rw [← e_s51]
                      have hS_s51 : zSK G s51 := by rw [e_s51]; exact zSK_A hS_s50 (zr (k := 36) (t2 := 93) hG ha rfl) rfl rfl rfl (by omega)
                      refine j_iinc hx 3 [(5, .int (zI (v297 + 1))), (0, .ref a), (3, .int (zI x3)), (4, .int (zI v288))] dX12_readPlan_192 rfl (by omega) (by decide) rfl ?_
                      refine j_goto hx 123 dX12_readPlan_195 rfl ?_
                      exact j_sub [1, 2, 3, 0] [(0, .ref a), (3, .int (zI x3)), (4, .int (zI v288)), (5, .int (zI (v297 + 1)))] rfl (ih_c123_40 (v297 + 1) s51 (by omega) (by omega) hS_s51 (zFr_u (zFr_u (zFr_u (zFr_t zFr_rf hF_s41 (by decide)) e_s49 (zr (k := 34) (t2 := 91) hG ha rfl) (by decide)) e_s50 (zr (k := 35) (t2 := 92) hG ha rfl) (by decide)) e_s51 (zr (k := 36) (t2 := 93) hG ha rfl) (by decide)) (by omega) (by have q1 : s51 (gP G a 34) = s49 (gP G a 34) := (by rw [e_s51, zU_ne (zne (zr (k := 36) (t2 := 93) hG ha rfl) (zr (k := 34) (t2 := 91) hG ha rfl) (by decide)), e_s50, zU_ne (zne (zr (k := 35) (t2 := 92) hG ha rfl) (zr (k := 34) (t2 := 91) hG ha rfl) (by decide))]); have q2 : s51 (gP G a 31) = s49 (gP G a 31) := (by rw [e_s51, zU_ne (zne (zr (k := 36) (t2 := 93) hG ha rfl) (zr (k := 31) (t2 := 88) hG ha rfl) (by decide)), e_s50, zU_ne (zne (zr (k := 35) (t2 := 92) hG ha rfl) (zr (k := 31) (t2 := 88) hG ha rfl) (by decide))]); rw [q1, q2]; exact (zPt_nn hP320 (by omega) (by omega))) (by have q1 : s51 (gP G a 35) = s50 (gP G a 35) := (by rw [e_s51, zU_ne (zne (zr (k := 36) (t2 := 93) hG ha rfl) (zr (k := 35) (t2 := 92) hG ha rfl) (by decide))]); have q2 : s51 (gP G a 32) = s50 (gP G a 32) := (by rw [e_s51, zU_ne (zne (zr (k := 36) (t2 := 93) hG ha rfl) (zr (k := 32) (t2 := 89) hG ha rfl) (by decide))]); rw [q1, q2]; exact (zPt_nn hP323 (by omega) (by omega))))
                exact j_sub [2, 5, 1, 0] [(0, .ref a), (3, .int (zI x3)), (4, .int (zI v288)), (5, .int (zI 0))] rfl (c123_40 (2147483648 * 4) 0 s39 (by omega) (by omega) hS_s39 zFr_rf (by omega) (zPt_nn hP295 (by omega) (by omega)) (zPt_nn hP296 (by omega) (by omega)))
              · skip
                refine j_iload hx 0 dX12_readPlan_107 rfl ?_
                have g325 : zc (s38 (gP G a 28)) = zc (s0 (gP G a 28)) := by rw [hF_s38 (gP G a 28) (by rw [(zr (k := 28) (t2 := 85) hG ha rfl)]; decide), hF_s37 (gP G a 28) (by rw [(zr (k := 28) (t2 := 85) hG ha rfl)]; decide), hF_s22 (gP G a 28) (by rw [(zr (k := 28) (t2 := 85) hG ha rfl)]; decide), hF_s7 (gP G a 28) (by rw [(zr (k := 28) (t2 := 85) hG ha rfl)]; decide), e_s6, zU_ne (zne ha (zr (k := 28) (t2 := 85) hG ha rfl) (by decide)), hF_s5 (gP G a 28) (by rw [(zr (k := 28) (t2 := 85) hG ha rfl)]; decide)]
                have g326 : s38 (gP G a 28) 488 = s0 (gP G a 28) 488 := (by rw [(zFr_g hF_s38 (zr (k := 28) (t2 := 85) hG ha rfl) (by decide)), (zFr_g hF_s37 (zr (k := 28) (t2 := 85) hG ha rfl) (by decide)), (zFr_g hF_s22 (zr (k := 28) (t2 := 85) hG ha rfl) (by decide)), (zFr_g hF_s7 (zr (k := 28) (t2 := 85) hG ha rfl) (by decide)), e_s6, zU_at (Or.inl (zne ha (zr (k := 28) (t2 := 85) hG ha rfl) (by decide))), (zFr_g hF_s5 (zr (k := 28) (t2 := 85) hG ha rfl) (by decide))])
                have f327 := zf hS_s38 ha (k := 21) rfl
                have f328 := zf hS_s38 ha (k := 22) rfl
                have f329 := zf hS_s38 ha (k := 23) rfl
                have f330 := zf hS_s38 ha (k := 24) rfl
                have f331 := zf hS_s38 ha (k := 51) rfl
                have f332 := zf hS_s38 ha (k := 52) rfl
                exact j_iret hx hq rfl (by decide) (by decide) dX12_readPlan_109 ⟨v288, rfl, rfl, hS_s38, (zFr_t (zFr_t (zFr_t (zFr_t (zFr_u (zFr_t zFr_rf hF_s5 (by decide)) e_s6 ha (by decide)) hF_s7 (by decide)) hF_s22 (by decide)) hF_s37 (by decide)) hF_s38 (by decide)), ⟨(by omega), (by have q1 : s38 (gP G a 34) = s0 (gP G a 34) := (by rw [hF_s38 (gP G a 34) (by rw [(zr (k := 34) (t2 := 91) hG ha rfl)]; decide), hF_s37 (gP G a 34) (by rw [(zr (k := 34) (t2 := 91) hG ha rfl)]; decide), hF_s22 (gP G a 34) (by rw [(zr (k := 34) (t2 := 91) hG ha rfl)]; decide), hF_s7 (gP G a 34) (by rw [(zr (k := 34) (t2 := 91) hG ha rfl)]; decide), e_s6, zU_ne (zne ha (zr (k := 34) (t2 := 91) hG ha rfl) (by decide)), hF_s5 (gP G a 34) (by rw [(zr (k := 34) (t2 := 91) hG ha rfl)]; decide)]); have q2 : s38 (gP G a 35) = s0 (gP G a 35) := (by rw [hF_s38 (gP G a 35) (by rw [(zr (k := 35) (t2 := 92) hG ha rfl)]; decide), hF_s37 (gP G a 35) (by rw [(zr (k := 35) (t2 := 92) hG ha rfl)]; decide), hF_s22 (gP G a 35) (by rw [(zr (k := 35) (t2 := 92) hG ha rfl)]; decide), hF_s7 (gP G a 35) (by rw [(zr (k := 35) (t2 := 92) hG ha rfl)]; decide), e_s6, zU_ne (zne ha (zr (k := 35) (t2 := 92) hG ha rfl) (by decide)), hF_s5 (gP G a 35) (by rw [(zr (k := 35) (t2 := 92) hG ha rfl)]; decide)]); have q3 : s38 (gP G a 37) = s0 (gP G a 37) := (by rw [hF_s38 (gP G a 37) (by rw [(zr (k := 37) (t2 := 94) hG ha rfl)]; decide), hF_s37 (gP G a 37) (by rw [(zr (k := 37) (t2 := 94) hG ha rfl)]; decide), hF_s22 (gP G a 37) (by rw [(zr (k := 37) (t2 := 94) hG ha rfl)]; decide), hF_s7 (gP G a 37) (by rw [(zr (k := 37) (t2 := 94) hG ha rfl)]; decide), e_s6, zU_ne (zne ha (zr (k := 37) (t2 := 94) hG ha rfl) (by decide)), hF_s5 (gP G a 37) (by rw [(zr (k := 37) (t2 := 94) hG ha rfl)]; decide)]); rw [q1, q2, q3]; exact e1), by omega, by omega, by omega, by omega, by omega, by omega, by omega, by omega⟩⟩

theorem lk_RX12_318 : LkV RX12 318 RX12 yX12_readPlan cX12_readPlan 6 (some .int) 3 := ⟨km_RX12_318, ki_yX12_readPlan, ks_RX12_yX12_readPlan, kn_RX12, kc_yX12_readPlan, rfl, by decide +kernel, by decide +kernel, by decide +kernel⟩
set_option maxHeartbeats 1200000 in
set_option maxRecDepth 20000 in
theorem c_X12_plan {E : zE} {l : Launch} (hst : l.stackTraces = false) (a : Nat) (x1 : Int) (x2 : Int) : Con E l yX12_plan cX12_plan 3 (some .int) { frames := 28, cells := 0, slots := 0, locals := 708 } (fun G s vs => vs = [.ref a, .int (zI x1), .int (zI x2)] ∧ zGK G ∧ zSK G s ∧ (gT G a = 13) ∧ ((-2147483648) ≤ x1 ∧ x1 ≤ 2147483647) ∧ ((-2147483648) ≤ x2 ∧ x2 ≤ 2147483647) ∧ (zRva (s (gP G a 34)) (s (gP G a 35)) (s (gP G a 37)))) (fun G s _ => pI (fun r G2 s2 => G2 = G ∧ zSK G s2 ∧ zFr [13, 71, 85, 88, 89, 90, 91, 92, 93, 94] G s s2 ∧ ((-2147483648) ≤ r ∧ r ≤ 2147483647) ∧ zRva (s2 (gP G a 34)) (s2 (gP G a 35)) (s2 (gP G a 37)) ∧ (zc (s2 (gP G a 28)) = zc (s (gP G a 28)) ∨ zc (s2 (gP G a 28)) = zc (s (gP G a 27))) ∧ (s2 (gP G a 28) 488 = s (gP G a 28) 488 ∨ s2 (gP G a 28) 488 = s (gP G a 27) 488) ∧ s2 a 21 = s a 21 ∧ s2 a 22 = s a 22 ∧ s2 a 23 = s a 23 ∧ s2 a 24 = s a 24 ∧ s2 a 51 = s a 51 ∧ s2 a 52 = s a 52)) := by
  refine Con.mk hst (by decide) (fun G s vs h => by rw [h.1]; exact Nat.le_of_ble_eq_true rfl) ?_
  rintro X G s0 vs ⟨rfl, hG, hS0, ha, hx1, hx2, e0⟩ rfl hx hq
  show JJ X E 3 G s0 0 0 [(0, .ref a), (1, .int (zI x1)), (2, .int (zI x2))] 0 []
  refine j_aload_n hx 0 dX12_plan_0 rfl ?_
  refine j_iconst hx dX12_plan_1 ?_
  refine p13_0 hx hG ha kf_RX12_3 dX12_plan_2 ?_
  obtain ⟨s1, e_s1⟩ : ∃ z, z = zU s0 a 0 0 := ⟨_, rfl⟩
  rw [← e_s1]
  have hS_s1 : zSK G s1 := by rw [e_s1]; exact zSK_F hS0 ha rfl rfl rfl (by omega)
  refine j_aload_n hx 0 dX12_plan_5 rfl ?_
  refine j_iload_n hx 1 dX12_plan_6 rfl ?_
  refine j_iload_n hx 2 dX12_plan_7 rfl ?_
  refine j_iload_n hx 1 dX12_plan_8 rfl ?_
  have g1 : s1 a 0 = 0 := (by rw [e_s1, zU_eq])
  have g2 : zc (s1 (gP G a 28)) = zc (s0 (gP G a 28)) := by rw [e_s1, zU_ne (zne ha (zr (k := 28) (t2 := 85) hG ha rfl) (by decide))]
  have g3 : zc (s1 (gP G a 27)) = zc (s0 (gP G a 27)) := by rw [e_s1, zU_ne (zne ha (zr (k := 27) (t2 := 84) hG ha rfl) (by decide))]
  have g4 : s1 (gP G a 28) 488 = s0 (gP G a 28) 488 := (by rw [e_s1, zU_at (Or.inl (zne ha (zr (k := 28) (t2 := 85) hG ha rfl) (by decide)))])
  have g5 : s1 (gP G a 27) 488 = s0 (gP G a 27) 488 := (by rw [e_s1, zU_at (Or.inl (zne ha (zr (k := 27) (t2 := 84) hG ha rfl) (by decide)))])
  have g6 : s1 a 21 = s0 a 21 := (by rw [e_s1, zU_at (Or.inr (by decide))])
  have f7 := zf hS0 ha (k := 21) rfl
  have g8 : s1 a 22 = s0 a 22 := (by rw [e_s1, zU_at (Or.inr (by decide))])
  have f9 := zf hS0 ha (k := 22) rfl
  have g10 : s1 a 23 = s0 a 23 := (by rw [e_s1, zU_at (Or.inr (by decide))])
  have f11 := zf hS0 ha (k := 23) rfl
  have g12 : s1 a 24 = s0 a 24 := (by rw [e_s1, zU_at (Or.inr (by decide))])
  have f13 := zf hS0 ha (k := 24) rfl
  have g14 : s1 a 51 = s0 a 51 := (by rw [e_s1, zU_at (Or.inr (by decide))])
  have f15 := zf hS0 ha (k := 51) rfl
  have g16 : s1 a 52 = s0 a 52 := (by rw [e_s1, zU_at (Or.inr (by decide))])
  have f17 := zf hS0 ha (k := 52) rfl
  refine j_callV hx hG (c_X12_readPlan hst a x1 x2 x1) lk_RX12_318 ha (by decide) rfl rfl rfl rfl [.int (zI x1), .int (zI x2), .int (zI x1)] ⟨rfl, hG, hS_s1, ha, (by omega), (by omega), (by omega), (((by rw [e_s1, zU_eq]) : s1 a 0 = 0).trans (by omega)), ((by have q1 : s1 (gP G a 34) = s0 (gP G a 34) := (by rw [e_s1, zU_ne (zne ha (zr (k := 34) (t2 := 91) hG ha rfl) (by decide))]); have q2 : s1 (gP G a 35) = s0 (gP G a 35) := (by rw [e_s1, zU_ne (zne ha (zr (k := 35) (t2 := 92) hG ha rfl) (by decide))]); have q3 : s1 (gP G a 37) = s0 (gP G a 37) := (by rw [e_s1, zU_ne (zne ha (zr (k := 37) (t2 := 94) hG ha rfl) (by decide))]); rw [q1, q2, q3]; exact e0)), (by omega)⟩ rfl rfl ⟨by decide, by decide⟩ ⟨by decide, by decide⟩ (k2 := 0) (n2 := 0) rfl rfl (Nat.le_of_ble_eq_true rfl) dX12_plan_9 (kIM (fun v18 s2 hS_s2 hF_s2 q19 => ?_))
  have f20 := zf hS_s2 ha (k := 21) rfl
  have f21 := zf hS_s2 ha (k := 22) rfl
  have f22 := zf hS_s2 ha (k := 23) rfl
  have f23 := zf hS_s2 ha (k := 24) rfl
  have f24 := zf hS_s2 ha (k := 51) rfl
  have f25 := zf hS_s2 ha (k := 52) rfl
  exact j_iret hx hq rfl (by decide) (by decide) dX12_plan_12 ⟨v18, rfl, rfl, hS_s2, (zFr_t (zFr_u zFr_rf e_s1 ha (by decide)) hF_s2 (by decide)), ⟨(by omega), q19.2.1, by omega, by omega, by omega, by omega, by omega, by omega, by omega, by omega⟩⟩

set_option maxHeartbeats 1200000 in
set_option maxRecDepth 20000 in
theorem c_X12_guess {E : zE} {l : Launch} (hst : l.stackTraces = false) (a : Nat) (x1 : Int) (x2 : Int) : Con E l yX12_guess cX12_guess 3 (some .int) { frames := 28, cells := 0, slots := 0, locals := 708 } (fun G s vs => vs = [.ref a, .int (zI x1), .int (zI x2)] ∧ zGK G ∧ zSK G s ∧ (gT G a = 13) ∧ ((-2147483648) ≤ x1 ∧ x1 ≤ 2147483647) ∧ ((-2147483648) ≤ x2 ∧ x2 ≤ 2147483647) ∧ (zRva (s (gP G a 34)) (s (gP G a 35)) (s (gP G a 37)))) (fun G s _ => pI (fun r G2 s2 => G2 = G ∧ zSK G s2 ∧ zFr [13, 71, 85, 88, 89, 90, 91, 92, 93, 94] G s s2 ∧ ((-2147483648) ≤ r ∧ r ≤ 2147483647) ∧ zRva (s2 (gP G a 34)) (s2 (gP G a 35)) (s2 (gP G a 37)) ∧ (zc (s2 (gP G a 28)) = zc (s (gP G a 28)) ∨ zc (s2 (gP G a 28)) = zc (s (gP G a 27))) ∧ (s2 (gP G a 28) 488 = s (gP G a 28) 488 ∨ s2 (gP G a 28) 488 = s (gP G a 27) 488) ∧ s2 a 21 = s a 21 ∧ s2 a 22 = s a 22 ∧ s2 a 23 = s a 23 ∧ s2 a 24 = s a 24 ∧ s2 a 51 = s a 51 ∧ s2 a 52 = s a 52)) := by
  refine Con.mk hst (by decide) (fun G s vs h => by rw [h.1]; exact Nat.le_of_ble_eq_true rfl) ?_
  rintro X G s0 vs ⟨rfl, hG, hS0, ha, hx1, hx2, e0⟩ rfl hx hq
  show JJ X E 3 G s0 0 0 [(0, .ref a), (1, .int (zI x1)), (2, .int (zI x2))] 0 []
  refine j_aload_n hx 0 dX12_guess_0 rfl ?_
  refine j_iconst hx dX12_guess_1 ?_
  refine p13_0 hx hG ha kf_RX12_3 dX12_guess_2 ?_
  obtain ⟨s1, e_s1⟩ : ∃ z, z = zU s0 a 0 0 := ⟨_, rfl⟩
  rw [← e_s1]
  have hS_s1 : zSK G s1 := by rw [e_s1]; exact zSK_F hS0 ha rfl rfl rfl (by omega)
  refine j_aload_n hx 0 dX12_guess_5 rfl ?_
  refine j_iload_n hx 1 dX12_guess_6 rfl ?_
  refine j_iload_n hx 2 dX12_guess_7 rfl ?_
  refine j_iconst hx dX12_guess_8 ?_
  refine j_iload_n hx 1 dX12_guess_9 rfl ?_
  refine j_iadd hx (r := x1 + 3) dX12_guess_10 (by omega) ?_
  refine j_norm (fun v1 f2 f3 f4 => ?_)
  have g5 : s1 a 0 = 0 := (by rw [e_s1, zU_eq])
  have g6 : zc (s1 (gP G a 28)) = zc (s0 (gP G a 28)) := by rw [e_s1, zU_ne (zne ha (zr (k := 28) (t2 := 85) hG ha rfl) (by decide))]
  have g7 : zc (s1 (gP G a 27)) = zc (s0 (gP G a 27)) := by rw [e_s1, zU_ne (zne ha (zr (k := 27) (t2 := 84) hG ha rfl) (by decide))]
  have g8 : s1 (gP G a 28) 488 = s0 (gP G a 28) 488 := (by rw [e_s1, zU_at (Or.inl (zne ha (zr (k := 28) (t2 := 85) hG ha rfl) (by decide)))])
  have g9 : s1 (gP G a 27) 488 = s0 (gP G a 27) 488 := (by rw [e_s1, zU_at (Or.inl (zne ha (zr (k := 27) (t2 := 84) hG ha rfl) (by decide)))])
  have g10 : s1 a 21 = s0 a 21 := (by rw [e_s1, zU_at (Or.inr (by decide))])
  have f11 := zf hS0 ha (k := 21) rfl
  have g12 : s1 a 22 = s0 a 22 := (by rw [e_s1, zU_at (Or.inr (by decide))])
  have f13 := zf hS0 ha (k := 22) rfl
  have g14 : s1 a 23 = s0 a 23 := (by rw [e_s1, zU_at (Or.inr (by decide))])
  have f15 := zf hS0 ha (k := 23) rfl
  have g16 : s1 a 24 = s0 a 24 := (by rw [e_s1, zU_at (Or.inr (by decide))])
  have f17 := zf hS0 ha (k := 24) rfl
  have g18 : s1 a 51 = s0 a 51 := (by rw [e_s1, zU_at (Or.inr (by decide))])
  have f19 := zf hS0 ha (k := 51) rfl
  have g20 : s1 a 52 = s0 a 52 := (by rw [e_s1, zU_at (Or.inr (by decide))])
  have f21 := zf hS0 ha (k := 52) rfl
  refine j_callV hx hG (c_X12_readPlan hst a x1 x2 v1) lk_RX12_318 ha (by decide) rfl rfl rfl rfl [.int (zI x1), .int (zI x2), .int (zI v1)] ⟨rfl, hG, hS_s1, ha, (by omega), (by omega), (by omega), (((by rw [e_s1, zU_eq]) : s1 a 0 = 0).trans (by omega)), ((by have q1 : s1 (gP G a 34) = s0 (gP G a 34) := (by rw [e_s1, zU_ne (zne ha (zr (k := 34) (t2 := 91) hG ha rfl) (by decide))]); have q2 : s1 (gP G a 35) = s0 (gP G a 35) := (by rw [e_s1, zU_ne (zne ha (zr (k := 35) (t2 := 92) hG ha rfl) (by decide))]); have q3 : s1 (gP G a 37) = s0 (gP G a 37) := (by rw [e_s1, zU_ne (zne ha (zr (k := 37) (t2 := 94) hG ha rfl) (by decide))]); rw [q1, q2, q3]; exact e0)), (by omega)⟩ rfl rfl ⟨by decide, by decide⟩ ⟨by decide, by decide⟩ (k2 := 0) (n2 := 0) rfl rfl (Nat.le_of_ble_eq_true rfl) dX12_guess_11 (kIM (fun v22 s2 hS_s2 hF_s2 q23 => ?_))
  have f24 := zf hS_s2 ha (k := 21) rfl
  have f25 := zf hS_s2 ha (k := 22) rfl
  have f26 := zf hS_s2 ha (k := 23) rfl
  have f27 := zf hS_s2 ha (k := 24) rfl
  have f28 := zf hS_s2 ha (k := 51) rfl
  have f29 := zf hS_s2 ha (k := 52) rfl
  exact j_iret hx hq rfl (by decide) (by decide) dX12_guess_14 ⟨v22, rfl, rfl, hS_s2, (zFr_t (zFr_u zFr_rf e_s1 ha (by decide)) hF_s2 (by decide)), ⟨(by omega), q23.2.1, by omega, by omega, by omega, by omega, by omega, by omega, by omega, by omega⟩⟩
