set_option maxHeartbeats 1200000 in
set_option maxRecDepth 20000 in
theorem c_X12_lot {E : zE} {l : Launch} (hst : l.stackTraces = false) (a : Nat) (x1 : Int) (x2 : Int) (x3 : Int) : Con E l yX12_lot cX12_lot 5 (some .int) { frames := 7, cells := 0, slots := 0, locals := 162 } (fun G s vs => vs = [.ref a, .int (zI x1), .int (zI x2), .int (zI x3)] ∧ zGK G ∧ zSK G s ∧ (gT G a = 13) ∧ ((-2147483648) ≤ x1 ∧ x1 ≤ 2147483647) ∧ ((-2147483648) ≤ x2 ∧ x2 ≤ 2147483647) ∧ ((-2147483648) ≤ x3 ∧ x3 ≤ 2147483647) ∧ (zRva (s (gP G a 34)) (s (gP G a 35)) (s (gP G a 37))) ∧ (zc (s (gP G a 27)) ≤ 60) ∧ (s (gP G a 27) 488 ≤ 520000)) (fun G s _ => pI (fun r G2 s2 => G2 = G ∧ zSK G s2 ∧ zFr [13, 71, 84, 87, 95, 98, 99, 100, 101, 102, 103, 105] G s s2 ∧ ((-2147483648) ≤ r ∧ r ≤ 2147483647) ∧ zc (s2 (gP G a 27)) = zc (s (gP G a 27)) ∧ s2 (gP G a 27) 488 = s (gP G a 27) 488 ∧ s2 a 3 = s a 3 ∧ s2 a 4 = s a 4 ∧ s2 a 5 = s a 5 ∧ s2 a 7 = s a 7 ∧ s2 a 21 = s a 21 ∧ s2 a 22 = s a 22 ∧ s2 a 23 = s a 23 ∧ s2 a 24 = s a 24 ∧ s2 a 38 = s a 38)) := by
  refine Con.mk hst (by decide) (fun G s vs h => by rw [h.1]; exact Nat.le_of_ble_eq_true rfl) ?_
  rintro X G s0 vs ⟨rfl, hG, hS0, ha, hx1, hx2, hx3, e0, e1, e2⟩ rfl hx hq
  show JJ X E 5 G s0 0 0 [(0, .ref a), (1, .int (zI x1)), (2, .int (zI x2)), (3, .int (zI x3))] 0 []
  refine j_aload_n hx 0 dX12_lot_0 rfl ?_
  refine j_iconst hx dX12_lot_1 ?_
  refine p13_0 hx hG ha kf_RX12_3 dX12_lot_2 ?_
  obtain ⟨s1, e_s1⟩ : ∃ z, z = zU s0 a 0 0 := ⟨_, rfl⟩
  rw [← e_s1]
  have hS_s1 : zSK G s1 := by rw [e_s1]; exact zSK_F hS0 ha rfl rfl rfl (by omega)
  refine j_aload_n hx 0 dX12_lot_5 rfl ?_
  refine j_iload_n hx 2 dX12_lot_6 rfl ?_
  refine j_iconst hx dX12_lot_7 ?_
  refine j_bipush hx dX12_lot_8 rfl ?_
  refine j_callS hx (c_X12_within hst x2 1 20) lk_RX12_314 [.int (zI x2), .int (zI 1), .int (zI 20)] ⟨rfl, hG, hS_s1, (by omega), (by omega), (by omega)⟩ rfl rfl ⟨by decide, by decide⟩ ⟨by decide, by decide⟩ (k2 := 0) (n2 := 0) rfl rfl (Nat.le_of_ble_eq_true rfl) dX12_lot_10 (kIP (fun v1 q2 => ?_))
  refine j_if_eq hx 29 dX12_lot_13 rfl (by omega) (fun h3 => ?_) (fun h3 => ?_)
  · skip
    refine j_iconst hx dX12_lot_29 ?_
    refine j_iconst hx dX12_lot_30 ?_
    refine j_iconst hx dX12_lot_31 ?_
    have g4 : s1 a 0 = 0 := (by rw [e_s1, zU_eq])
    have g5 : s1 a 3 = s0 a 3 := (by rw [e_s1, zU_at (Or.inr (by decide))])
    have f6 := zf hS0 ha (k := 3) rfl
    have g7 : s1 a 4 = s0 a 4 := (by rw [e_s1, zU_at (Or.inr (by decide))])
    have f8 := zf hS0 ha (k := 4) rfl
    have g9 : s1 a 5 = s0 a 5 := (by rw [e_s1, zU_at (Or.inr (by decide))])
    have f10 := zf hS0 ha (k := 5) rfl
    have g11 : s1 a 7 = s0 a 7 := (by rw [e_s1, zU_at (Or.inr (by decide))])
    have f12 := zf hS0 ha (k := 7) rfl
    have g13 : s1 a 21 = s0 a 21 := (by rw [e_s1, zU_at (Or.inr (by decide))])
    have f14 := zf hS0 ha (k := 21) rfl
    have g15 : s1 a 22 = s0 a 22 := (by rw [e_s1, zU_at (Or.inr (by decide))])
    have f16 := zf hS0 ha (k := 22) rfl
    have g17 : s1 a 23 = s0 a 23 := (by rw [e_s1, zU_at (Or.inr (by decide))])
    have f18 := zf hS0 ha (k := 23) rfl
    have g19 : s1 a 24 = s0 a 24 := (by rw [e_s1, zU_at (Or.inr (by decide))])
    have f20 := zf hS0 ha (k := 24) rfl
    have g21 : s1 a 38 = s0 a 38 := (by rw [e_s1, zU_at (Or.inr (by decide))])
    have f22 := zf hS0 ha (k := 38) rfl
    have g23 : s1 a 51 = s0 a 51 := (by rw [e_s1, zU_at (Or.inr (by decide))])
    have f24 := zf hS0 ha (k := 51) rfl
    have g25 : s1 a 52 = s0 a 52 := (by rw [e_s1, zU_at (Or.inr (by decide))])
    have f26 := zf hS0 ha (k := 52) rfl
    refine j_callV hx hG (c_X12_may_f hst a 0 1 1) lk_RX12_240 ha (by decide) rfl rfl rfl rfl [.int (zI 0), .int (zI 1), .int (zI 1)] ⟨rfl, hG, hS_s1, ha, (by omega), (by omega), (by omega), (((by rw [e_s1, zU_eq]) : s1 a 0 = 0).trans (by omega))⟩ rfl rfl ⟨by decide, by decide⟩ ⟨by decide, by decide⟩ (k2 := 0) (n2 := 0) rfl rfl (Nat.le_of_ble_eq_true rfl) dX12_lot_32 (kIM (fun v27 s2 hS_s2 hF_s2 q28 => ?_))
    refine j_if_ne hx 40 dX12_lot_35 rfl (by omega) (fun h29 => absurd h29 (by omega)) (fun h29 => ?_)
    refine j_iconst hx dX12_lot_38 ?_
    have g30 : zc (s2 (gP G a 27)) = zc (s0 (gP G a 27)) := by rw [hF_s2 (gP G a 27) (by rw [(zr (k := 27) (t2 := 84) hG ha rfl)]; decide), e_s1, zU_ne (zne ha (zr (k := 27) (t2 := 84) hG ha rfl) (by decide))]
    have g31 : s2 (gP G a 27) 488 = s0 (gP G a 27) 488 := (by rw [(zFr_g hF_s2 (zr (k := 27) (t2 := 84) hG ha rfl) (by decide)), e_s1, zU_at (Or.inl (zne ha (zr (k := 27) (t2 := 84) hG ha rfl) (by decide)))])
    have f32 := zf hS_s2 ha (k := 3) rfl
    have f33 := zf hS_s2 ha (k := 4) rfl
    have f34 := zf hS_s2 ha (k := 5) rfl
    have f35 := zf hS_s2 ha (k := 7) rfl
    have f36 := zf hS_s2 ha (k := 21) rfl
    have f37 := zf hS_s2 ha (k := 22) rfl
    have f38 := zf hS_s2 ha (k := 23) rfl
    have f39 := zf hS_s2 ha (k := 24) rfl
    have f40 := zf hS_s2 ha (k := 38) rfl
    exact j_iret hx hq rfl (by decide) (by decide) dX12_lot_39 ⟨0, rfl, rfl, hS_s2, (zFr_t (zFr_u zFr_rf e_s1 ha (by decide)) hF_s2 (by decide)), ⟨(by omega), by omega, by omega, by omega, by omega, by omega, by omega, by omega, by omega, by omega, by omega, by omega⟩⟩
  · skip
    refine j_iload_n hx 3 dX12_lot_16 rfl ?_
    refine j_iconst hx dX12_lot_17 ?_
    refine j_iconst hx dX12_lot_18 ?_
    refine j_callS hx (c_X12_within hst x3 0 5) lk_RX12_314 [.int (zI x3), .int (zI 0), .int (zI 5)] ⟨rfl, hG, hS_s1, (by omega), (by omega), (by omega)⟩ rfl rfl ⟨by decide, by decide⟩ ⟨by decide, by decide⟩ (k2 := 0) (n2 := 0) rfl rfl (Nat.le_of_ble_eq_true rfl) dX12_lot_19 (kIP (fun v41 q42 => ?_))
    refine j_if_eq hx 29 dX12_lot_22 rfl (by omega) (fun h43 => ?_) (fun h43 => ?_)
    · skip
      refine j_iconst hx dX12_lot_29 ?_
      refine j_iconst hx dX12_lot_30 ?_
      refine j_iconst hx dX12_lot_31 ?_
      have g44 : s1 a 0 = 0 := (by rw [e_s1, zU_eq])
      have g45 : s1 a 3 = s0 a 3 := (by rw [e_s1, zU_at (Or.inr (by decide))])
      have f46 := zf hS0 ha (k := 3) rfl
      have g47 : s1 a 4 = s0 a 4 := (by rw [e_s1, zU_at (Or.inr (by decide))])
      have f48 := zf hS0 ha (k := 4) rfl
      have g49 : s1 a 5 = s0 a 5 := (by rw [e_s1, zU_at (Or.inr (by decide))])
      have f50 := zf hS0 ha (k := 5) rfl
      have g51 : s1 a 7 = s0 a 7 := (by rw [e_s1, zU_at (Or.inr (by decide))])
      have f52 := zf hS0 ha (k := 7) rfl
      have g53 : s1 a 21 = s0 a 21 := (by rw [e_s1, zU_at (Or.inr (by decide))])
      have f54 := zf hS0 ha (k := 21) rfl
      have g55 : s1 a 22 = s0 a 22 := (by rw [e_s1, zU_at (Or.inr (by decide))])
      have f56 := zf hS0 ha (k := 22) rfl
      have g57 : s1 a 23 = s0 a 23 := (by rw [e_s1, zU_at (Or.inr (by decide))])
      have f58 := zf hS0 ha (k := 23) rfl
      have g59 : s1 a 24 = s0 a 24 := (by rw [e_s1, zU_at (Or.inr (by decide))])
      have f60 := zf hS0 ha (k := 24) rfl
      have g61 : s1 a 38 = s0 a 38 := (by rw [e_s1, zU_at (Or.inr (by decide))])
      have f62 := zf hS0 ha (k := 38) rfl
      have g63 : s1 a 51 = s0 a 51 := (by rw [e_s1, zU_at (Or.inr (by decide))])
      have f64 := zf hS0 ha (k := 51) rfl
      have g65 : s1 a 52 = s0 a 52 := (by rw [e_s1, zU_at (Or.inr (by decide))])
      have f66 := zf hS0 ha (k := 52) rfl
      refine j_callV hx hG (c_X12_may_f hst a 0 1 1) lk_RX12_240 ha (by decide) rfl rfl rfl rfl [.int (zI 0), .int (zI 1), .int (zI 1)] ⟨rfl, hG, hS_s1, ha, (by omega), (by omega), (by omega), (((by rw [e_s1, zU_eq]) : s1 a 0 = 0).trans (by omega))⟩ rfl rfl ⟨by decide, by decide⟩ ⟨by decide, by decide⟩ (k2 := 0) (n2 := 0) rfl rfl (Nat.le_of_ble_eq_true rfl) dX12_lot_32 (kIM (fun v67 s3 hS_s3 hF_s3 q68 => ?_))
      refine j_if_ne hx 40 dX12_lot_35 rfl (by omega) (fun h69 => absurd h69 (by omega)) (fun h69 => ?_)
      refine j_iconst hx dX12_lot_38 ?_
      have g70 : zc (s3 (gP G a 27)) = zc (s0 (gP G a 27)) := by rw [hF_s3 (gP G a 27) (by rw [(zr (k := 27) (t2 := 84) hG ha rfl)]; decide), e_s1, zU_ne (zne ha (zr (k := 27) (t2 := 84) hG ha rfl) (by decide))]
      have g71 : s3 (gP G a 27) 488 = s0 (gP G a 27) 488 := (by rw [(zFr_g hF_s3 (zr (k := 27) (t2 := 84) hG ha rfl) (by decide)), e_s1, zU_at (Or.inl (zne ha (zr (k := 27) (t2 := 84) hG ha rfl) (by decide)))])
      have f72 := zf hS_s3 ha (k := 3) rfl
      have f73 := zf hS_s3 ha (k := 4) rfl
      have f74 := zf hS_s3 ha (k := 5) rfl
      have f75 := zf hS_s3 ha (k := 7) rfl
      have f76 := zf hS_s3 ha (k := 21) rfl
      have f77 := zf hS_s3 ha (k := 22) rfl
      have f78 := zf hS_s3 ha (k := 23) rfl
      have f79 := zf hS_s3 ha (k := 24) rfl
      have f80 := zf hS_s3 ha (k := 38) rfl
      exact j_iret hx hq rfl (by decide) (by decide) dX12_lot_39 ⟨0, rfl, rfl, hS_s3, (zFr_t (zFr_u zFr_rf e_s1 ha (by decide)) hF_s3 (by decide)), ⟨(by omega), by omega, by omega, by omega, by omega, by omega, by omega, by omega, by omega, by omega, by omega, by omega⟩⟩
    · skip
      refine j_iconst hx dX12_lot_25 ?_
      refine j_goto hx 30 dX12_lot_26 rfl ?_
      refine j_iconst hx dX12_lot_30 ?_
      refine j_iconst hx dX12_lot_31 ?_
      have g81 : s1 a 0 = 0 := (by rw [e_s1, zU_eq])
      refine j_callV hx hG (c_X12_may_t hst a 1 1 1) lk_RX12_240 ha (by decide) rfl rfl rfl rfl [.int (zI 1), .int (zI 1), .int (zI 1)] ⟨rfl, hG, hS_s1, ha, (by omega), (by omega), (by omega), (((by rw [e_s1, zU_eq]) : s1 a 0 = 0).trans (by omega))⟩ rfl rfl ⟨by decide, by decide⟩ ⟨by decide, by decide⟩ (k2 := 0) (n2 := 0) rfl rfl (Nat.le_of_ble_eq_true rfl) dX12_lot_32 (kIP (fun v82 q83 => ?_))
      refine j_if_ne hx 40 dX12_lot_35 rfl (by omega) (fun h84 => ?_) (fun h84 => absurd h84 (by omega))
      refine j_iconst hx dX12_lot_40 ?_
      refine j_istore hx [(4, .int (zI 0)), (0, .ref a), (1, .int (zI x1)), (2, .int (zI x2)), (3, .int (zI x3))] dX12_lot_41 (by decide) rfl ?_
      have g86 : s1 (gP G a 27) 488 = s0 (gP G a 27) 488 := (by rw [e_s1, zU_at (Or.inl (zne ha (zr (k := 27) (t2 := 84) hG ha rfl) (by decide)))])
      have c43_4 : ∀ (m_c43_4 : Nat) (v85 : Int) (s5 : zS), 2147483648 - v85 < m_c43_4 → (0 ≤ v85 ∧ v85 ≤ 6) → (zSK G s5) → (zFr [105] G s1 s5) → (s5 (gP G a 27) 488 = s1 (gP G a 27) 488) → JJ X E 5 G s5 0 0 [(0, .ref a), (1, .int (zI x1)), (2, .int (zI x2)), (3, .int (zI x3)), (4, .int (zI v85))] 43 [] := by
        intro m_c43_4
        induction m_c43_4 with
        | zero => intro v85 s5 hm_c43_4 fA6 hS_s5 hF_s5 fA9; exfalso; omega
        | succ m_c43_4 ih_c43_4 => 
          intro v85 s5 hm_c43_4 fA6 hS_s5 hF_s5 fA9
          refine j_iload hx 4 dX12_lot_43 rfl ?_
          refine j_bipush hx dX12_lot_45 rfl ?_
          refine j_icmp_ge hx 64 dX12_lot_47 rfl (by omega) ⟨by decide, by decide⟩ (fun h87 => ?_) (fun h87 => ?_)
          · skip
            refine j_aload_n hx 0 dX12_lot_64 rfl ?_
            have g88 : zc (s5 (gP G a 27)) = zc (s0 (gP G a 27)) := by rw [hF_s5 (gP G a 27) (by rw [(zr (k := 27) (t2 := 84) hG ha rfl)]; decide), e_s1, zU_ne (zne ha (zr (k := 27) (t2 := 84) hG ha rfl) (by decide))]
            have g89 : s5 (gP G a 27) 488 = s0 (gP G a 27) 488 := (by rw [(zFr_g hF_s5 (zr (k := 27) (t2 := 84) hG ha rfl) (by decide)), e_s1, zU_at (Or.inl (zne ha (zr (k := 27) (t2 := 84) hG ha rfl) (by decide)))])
            refine j_callV hx hG (c_X12_keeps hst a) lk_RX12_444 ha (by decide) rfl rfl rfl rfl [] ⟨rfl, hG, hS_s5, ha⟩ rfl rfl ⟨by decide, by decide⟩ ⟨by decide, by decide⟩ (k2 := 0) (n2 := 0) rfl rfl (Nat.le_of_ble_eq_true rfl) dX12_lot_65 (kVM (fun s10 hS_s10 hF_s10 q91 => ?_))
            refine j_iconst hx dX12_lot_68 ?_
            refine j_istore hx [(4, .int (zI 0)), (0, .ref a), (1, .int (zI x1)), (2, .int (zI x2)), (3, .int (zI x3))] dX12_lot_69 (by decide) rfl ?_
            have g93 : s10 a 0 = 0 := (by rw [(zFr_g hF_s10 ha (by decide)), (zFr_g hF_s5 ha (by decide)), e_s1, zU_eq])
            have g94 : s10 a 3 = s0 a 3 := (by rw [(zFr_g hF_s10 ha (by decide)), (zFr_g hF_s5 ha (by decide)), e_s1, zU_at (Or.inr (by decide))])
            have f95 := zf hS0 ha (k := 3) rfl
            have g96 : s10 a 4 = s0 a 4 := (by rw [(zFr_g hF_s10 ha (by decide)), (zFr_g hF_s5 ha (by decide)), e_s1, zU_at (Or.inr (by decide))])
            have f97 := zf hS0 ha (k := 4) rfl
            have g98 : s10 a 5 = s0 a 5 := (by rw [(zFr_g hF_s10 ha (by decide)), (zFr_g hF_s5 ha (by decide)), e_s1, zU_at (Or.inr (by decide))])
            have f99 := zf hS0 ha (k := 5) rfl
            have g100 : s10 a 7 = s0 a 7 := (by rw [(zFr_g hF_s10 ha (by decide)), (zFr_g hF_s5 ha (by decide)), e_s1, zU_at (Or.inr (by decide))])
            have f101 := zf hS0 ha (k := 7) rfl
            have g102 : s10 a 21 = s0 a 21 := (by rw [(zFr_g hF_s10 ha (by decide)), (zFr_g hF_s5 ha (by decide)), e_s1, zU_at (Or.inr (by decide))])
            have f103 := zf hS0 ha (k := 21) rfl
            have g104 : s10 a 22 = s0 a 22 := (by rw [(zFr_g hF_s10 ha (by decide)), (zFr_g hF_s5 ha (by decide)), e_s1, zU_at (Or.inr (by decide))])
            have f105 := zf hS0 ha (k := 22) rfl
            have g106 : s10 a 23 = s0 a 23 := (by rw [(zFr_g hF_s10 ha (by decide)), (zFr_g hF_s5 ha (by decide)), e_s1, zU_at (Or.inr (by decide))])
            have f107 := zf hS0 ha (k := 23) rfl
            have g108 : s10 a 24 = s0 a 24 := (by rw [(zFr_g hF_s10 ha (by decide)), (zFr_g hF_s5 ha (by decide)), e_s1, zU_at (Or.inr (by decide))])
            have f109 := zf hS0 ha (k := 24) rfl
            have g110 : s10 a 38 = s0 a 38 := (by rw [(zFr_g hF_s10 ha (by decide)), (zFr_g hF_s5 ha (by decide)), e_s1, zU_at (Or.inr (by decide))])
            have f111 := zf hS0 ha (k := 38) rfl
            have g112 : s10 (gP G a 27) 488 = s0 (gP G a 27) 488 := (by rw [(zFr_g hF_s10 (zr (k := 27) (t2 := 84) hG ha rfl) (by decide)), (zFr_g hF_s5 (zr (k := 27) (t2 := 84) hG ha rfl) (by decide)), e_s1, zU_at (Or.inl (zne ha (zr (k := 27) (t2 := 84) hG ha rfl) (by decide)))])
            have g113 : zc (s10 (gP G a 27)) = zc (s0 (gP G a 27)) := by rw [hF_s10 (gP G a 27) (by rw [(zr (k := 27) (t2 := 84) hG ha rfl)]; decide), hF_s5 (gP G a 27) (by rw [(zr (k := 27) (t2 := 84) hG ha rfl)]; decide), e_s1, zU_ne (zne ha (zr (k := 27) (t2 := 84) hG ha rfl) (by decide))]
            have c71_11 : ∀ (m_c71_11 : Nat) (v92 : Int) (s12 : zS), 2147483648 - v92 < m_c71_11 → (0 ≤ v92 ∧ v92 ≤ 2147483647) → (zSK G s12) → (zFr [13, 84, 87, 95, 98, 101, 102, 103, 105] G s10 s12) → (s12 a 0 = s10 a 0) → (s12 a 3 = s10 a 3) → (s12 a 4 = s10 a 4) → (s12 a 5 = s10 a 5) → (s12 a 7 = s10 a 7) → (s12 a 21 = s10 a 21) → (s12 a 22 = s10 a 22) → (s12 a 23 = s10 a 23) → (s12 a 24 = s10 a 24) → (s12 a 38 = s10 a 38) → (zc (s12 (gP G a 27)) = zc (s10 (gP G a 27))) → (s12 (gP G a 27) 488 = s10 (gP G a 27) 488) → JJ X E 5 G s12 0 0 [(0, .ref a), (1, .int (zI x1)), (2, .int (zI x2)), (3, .int (zI x3)), (4, .int (zI v92))] 71 [] := by
              intro m_c71_11
              induction m_c71_11 with
              | zero => intro v92 s12 hm_c71_11 fA13 hS_s12 hF_s12 fA16 fA17 fA18 fA19 fA20 fA21 fA22 fA23 fA24 fA25 fA26 fA27; exfalso; omega
              | succ m_c71_11 ih_c71_11 => 
                intro v92 s12 hm_c71_11 fA13 hS_s12 hF_s12 fA16 fA17 fA18 fA19 fA20 fA21 fA22 fA23 fA24 fA25 fA26 fA27
                refine j_iload hx 4 dX12_lot_71 rfl ?_
                refine j_iload_n hx 2 dX12_lot_73 rfl ?_
                refine j_icmp_ge hx 213 dX12_lot_74 rfl (by omega) (by omega) (fun h114 => ?_) (fun h114 => ?_)
                · skip
                  refine j_aload_n hx 0 dX12_lot_213 rfl ?_
                  refine g13_56 hx hG ha kf_RX12_121 dX12_lot_214 ?_
                  refine j_iload_n hx 3 dX12_lot_217 rfl ?_
                  have f115 := zaI (j := (x3).toNat) hS_s12 (zr (k := 56) (t2 := 105) hG ha rfl) rfl (zlen hG (zr (k := 56) (t2 := 105) hG ha rfl) (n := 6) rfl rfl) (show 0 ≤ x3 by omega) (by omega) rfl
                  refine j_iald hx hG (zr (k := 56) (t2 := 105) hG ha rfl) (by decide) rfl (zlen hG (zr (k := 56) (t2 := 105) hG ha rfl) (n := 6) rfl rfl) (by omega) (by omega) (j := (x3).toNat) rfl rfl dX12_lot_218 ?_
                  have f116 := zf hS_s12 ha (k := 3) rfl
                  have f117 := zf hS_s12 ha (k := 4) rfl
                  have f118 := zf hS_s12 ha (k := 5) rfl
                  have f119 := zf hS_s12 ha (k := 7) rfl
                  have f120 := zf hS_s12 ha (k := 21) rfl
                  have f121 := zf hS_s12 ha (k := 22) rfl
                  have f122 := zf hS_s12 ha (k := 23) rfl
                  have f123 := zf hS_s12 ha (k := 24) rfl
                  have f124 := zf hS_s12 ha (k := 38) rfl
                  exact j_iret hx hq rfl (by decide) (by decide) dX12_lot_219 ⟨(s12 (gP G a 56) (x3).toNat), rfl, rfl, hS_s12, (zFr_t (zFr_t (zFr_t (zFr_u zFr_rf e_s1 ha (by decide)) hF_s5 (by decide)) hF_s10 (by decide)) hF_s12 (by decide)), ⟨(by omega), by omega, by omega, by omega, by omega, by omega, by omega, by omega, by omega, by omega, by omega, by omega⟩⟩
                · skip
                  refine j_aload_n hx 0 dX12_lot_77 rfl ?_
                  refine j_iload_n hx 1 dX12_lot_78 rfl ?_
                  refine j_iload hx 4 dX12_lot_79 rfl ?_
                  refine j_iadd hx (r := x1 + v92) dX12_lot_81 rfl ?_
                  refine j_norm (fun v125 f126 f127 f128 => ?_)
                  refine j_callV hx hG (c_X12_shuffles hst a v125) lk_RX12_495 ha (by decide) rfl rfl rfl rfl [.int (zI v125)] ⟨rfl, hG, hS_s12, ha, (by omega)⟩ rfl rfl ⟨by decide, by decide⟩ ⟨by decide, by decide⟩ (k2 := 0) (n2 := 0) rfl rfl (Nat.le_of_ble_eq_true rfl) dX12_lot_82 (kVM (fun s28 hS_s28 hF_s28 q130 => ?_))
                  refine j_aload_n hx 0 dX12_lot_85 rfl ?_
                  have g131 : s28 a 0 = s12 a 0 := (by rw [(zFr_g hF_s28 ha (by decide))])
                  have f132 := zf hS_s12 ha (k := 0) rfl
                  have g133 : s28 a 3 = s12 a 3 := (by rw [(zFr_g hF_s28 ha (by decide))])
                  have f134 := zf hS_s12 ha (k := 3) rfl
                  have g135 : s28 a 4 = s12 a 4 := (by rw [(zFr_g hF_s28 ha (by decide))])
                  have f136 := zf hS_s12 ha (k := 4) rfl
                  have g137 : s28 a 5 = s12 a 5 := (by rw [(zFr_g hF_s28 ha (by decide))])
                  have f138 := zf hS_s12 ha (k := 5) rfl
                  have g139 : s28 a 7 = s12 a 7 := (by rw [(zFr_g hF_s28 ha (by decide))])
                  have f140 := zf hS_s12 ha (k := 7) rfl
                  have g141 : s28 a 21 = s12 a 21 := (by rw [(zFr_g hF_s28 ha (by decide))])
                  have f142 := zf hS_s12 ha (k := 21) rfl
                  have g143 : s28 a 22 = s12 a 22 := (by rw [(zFr_g hF_s28 ha (by decide))])
                  have f144 := zf hS_s12 ha (k := 22) rfl
                  have g145 : s28 a 23 = s12 a 23 := (by rw [(zFr_g hF_s28 ha (by decide))])
                  have f146 := zf hS_s12 ha (k := 23) rfl
                  have g147 : s28 a 24 = s12 a 24 := (by rw [(zFr_g hF_s28 ha (by decide))])
                  have f148 := zf hS_s12 ha (k := 24) rfl
                  have g149 : s28 a 38 = s12 a 38 := (by rw [(zFr_g hF_s28 ha (by decide))])
                  have f150 := zf hS_s12 ha (k := 38) rfl
                  refine j_callV hx hG (c_X12_findEnds hst a) lk_RX12_447 ha (by decide) rfl rfl rfl rfl [] ⟨rfl, hG, hS_s28, ha, (by omega), ((by have q1 : s28 (gP G a 34) = s0 (gP G a 34) := (by rw [hF_s28 (gP G a 34) (by rw [(zr (k := 34) (t2 := 91) hG ha rfl)]; decide), hF_s12 (gP G a 34) (by rw [(zr (k := 34) (t2 := 91) hG ha rfl)]; decide), hF_s10 (gP G a 34) (by rw [(zr (k := 34) (t2 := 91) hG ha rfl)]; decide), hF_s5 (gP G a 34) (by rw [(zr (k := 34) (t2 := 91) hG ha rfl)]; decide), e_s1, zU_ne (zne ha (zr (k := 34) (t2 := 91) hG ha rfl) (by decide))]); have q2 : s28 (gP G a 35) = s0 (gP G a 35) := (by rw [hF_s28 (gP G a 35) (by rw [(zr (k := 35) (t2 := 92) hG ha rfl)]; decide), hF_s12 (gP G a 35) (by rw [(zr (k := 35) (t2 := 92) hG ha rfl)]; decide), hF_s10 (gP G a 35) (by rw [(zr (k := 35) (t2 := 92) hG ha rfl)]; decide), hF_s5 (gP G a 35) (by rw [(zr (k := 35) (t2 := 92) hG ha rfl)]; decide), e_s1, zU_ne (zne ha (zr (k := 35) (t2 := 92) hG ha rfl) (by decide))]); have q3 : s28 (gP G a 37) = s0 (gP G a 37) := (by rw [hF_s28 (gP G a 37) (by rw [(zr (k := 37) (t2 := 94) hG ha rfl)]; decide), hF_s12 (gP G a 37) (by rw [(zr (k := 37) (t2 := 94) hG ha rfl)]; decide), hF_s10 (gP G a 37) (by rw [(zr (k := 37) (t2 := 94) hG ha rfl)]; decide), hF_s5 (gP G a 37) (by rw [(zr (k := 37) (t2 := 94) hG ha rfl)]; decide), e_s1, zU_ne (zne ha (zr (k := 37) (t2 := 94) hG ha rfl) (by decide))]); rw [q1, q2, q3]; exact e0)), (by omega)⟩ rfl rfl ⟨by decide, by decide⟩ ⟨by decide, by decide⟩ (k2 := 0) (n2 := 0) rfl rfl (Nat.le_of_ble_eq_true rfl) dX12_lot_86 (kVM (fun s29 hS_s29 hF_s29 q152 => ?_))
                  refine j_aload_n hx 0 dX12_lot_89 rfl ?_
                  have g153 : zc (s29 (gP G a 46)) = zc (s10 (gP G a 46)) := by rw [hF_s29 (gP G a 46) (by rw [(zr (k := 46) (t2 := 99) hG ha rfl)]; decide), hF_s28 (gP G a 46) (by rw [(zr (k := 46) (t2 := 99) hG ha rfl)]; decide), hF_s12 (gP G a 46) (by rw [(zr (k := 46) (t2 := 99) hG ha rfl)]; decide)]
                  have g154 : s29 (gP G a 46) 488 = s10 (gP G a 46) 488 := (by rw [(zFr_g hF_s29 (zr (k := 46) (t2 := 99) hG ha rfl) (by decide)), (zFr_g hF_s28 (zr (k := 46) (t2 := 99) hG ha rfl) (by decide)), (zFr_g hF_s12 (zr (k := 46) (t2 := 99) hG ha rfl) (by decide))])
                  refine j_callV hx hG (c_X12_back hst a) lk_RX12_450 ha (by decide) rfl rfl rfl rfl [] ⟨rfl, hG, hS_s29, ha⟩ rfl rfl ⟨by decide, by decide⟩ ⟨by decide, by decide⟩ (k2 := 0) (n2 := 0) rfl rfl (Nat.le_of_ble_eq_true rfl) dX12_lot_90 (kVM (fun s30 hS_s30 hF_s30 q156 => ?_))
                  refine j_aload_n hx 0 dX12_lot_93 rfl ?_
                  refine g13_56 hx hG ha kf_RX12_121 dX12_lot_94 ?_
                  refine j_iconst hx dX12_lot_97 ?_
                  refine j_iload hx 4 dX12_lot_98 rfl ?_
                  refine j_if_eq hx 116 dX12_lot_100 rfl (by omega) (fun h157 => ?_) (fun h157 => ?_)
                  · skip
                    refine j_aload_n hx 0 dX12_lot_116 rfl ?_
                    have f158 := zf hS_s29 ha (k := 52) rfl
                    refine g13_52 hx hG ha kf_RX12_429 (v := (s29 a 52)) (by rw [(zFr_g hF_s30 ha (by decide))]) dX12_lot_117 ?_
                    refine j_goto hx 129 dX12_lot_120 rfl ?_
                    refine j_iast hx hG (zr (k := 56) (t2 := 105) hG ha rfl) (by decide) rfl (zlen hG (zr (k := 56) (t2 := 105) hG ha rfl) (n := 6) rfl rfl) (by omega) (by omega) (j := 0) rfl dX12_lot_129 ?_
                    obtain ⟨s31, e_s31⟩ : ∃ z, z = zU s30 (gP G a 56) 0 ((s29 a 52)) := ⟨_, rfl⟩
                    rw [← e_s31]
                    have hS_s31 : zSK G s31 := by rw [e_s31]; exact zSK_A hS_s30 (zr (k := 56) (t2 := 105) hG ha rfl) rfl rfl rfl (by omega)
                    refine j_aload_n hx 0 dX12_lot_130 rfl ?_
                    refine g13_56 hx hG ha kf_RX12_121 dX12_lot_131 ?_
                    refine j_iconst hx dX12_lot_134 ?_
                    refine j_aload_n hx 0 dX12_lot_135 rfl ?_
                    refine g13_52 hx hG ha kf_RX12_429 (v := (s29 a 52)) (by rw [e_s31, zU_at (Or.inl (zne (zr (k := 56) (t2 := 105) hG ha rfl) ha (by decide))), (zFr_g hF_s30 ha (by decide))]) dX12_lot_136 ?_
                    refine j_aload_n hx 0 dX12_lot_139 rfl ?_
                    refine g13_56 hx hG ha kf_RX12_121 dX12_lot_140 ?_
                    refine j_iconst hx dX12_lot_143 ?_
                    have f159 := zaI (j := 1) hS_s12 (zr (k := 56) (t2 := 105) hG ha rfl) rfl (zlen hG (zr (k := 56) (t2 := 105) hG ha rfl) (n := 6) rfl rfl) (show 0 ≤ 1 by omega) (by omega) rfl
                    refine j_iald hx hG (zr (k := 56) (t2 := 105) hG ha rfl) (by decide) rfl (zlen hG (zr (k := 56) (t2 := 105) hG ha rfl) (n := 6) rfl rfl) (by omega) (by omega) (j := 1) rfl (v := (s12 (gP G a 56) 1)) (by rw [e_s31, zU_at (Or.inr (by decide)), (zFr_g hF_s30 (zr (k := 56) (t2 := 105) hG ha rfl) (by decide)), (zFr_g hF_s29 (zr (k := 56) (t2 := 105) hG ha rfl) (by decide)), (zFr_g hF_s28 (zr (k := 56) (t2 := 105) hG ha rfl) (by decide))]) dX12_lot_144 ?_
                    refine j_icmp_le hx 155 dX12_lot_145 rfl (by omega) (by omega) (fun h160 => ?_) (fun h160 => ?_)
                    · skip
                      refine j_aload_n hx 0 dX12_lot_155 rfl ?_
                      refine g13_56 hx hG ha kf_RX12_121 dX12_lot_156 ?_
                      refine j_iconst hx dX12_lot_159 ?_
                      refine j_iald hx hG (zr (k := 56) (t2 := 105) hG ha rfl) (by decide) rfl (zlen hG (zr (k := 56) (t2 := 105) hG ha rfl) (n := 6) rfl rfl) (by omega) (by omega) (j := 1) rfl (v := (s12 (gP G a 56) 1)) (by rw [e_s31, zU_at (Or.inr (by decide)), (zFr_g hF_s30 (zr (k := 56) (t2 := 105) hG ha rfl) (by decide)), (zFr_g hF_s29 (zr (k := 56) (t2 := 105) hG ha rfl) (by decide)), (zFr_g hF_s28 (zr (k := 56) (t2 := 105) hG ha rfl) (by decide))]) dX12_lot_160 ?_
                      refine j_iast hx hG (zr (k := 56) (t2 := 105) hG ha rfl) (by decide) rfl (zlen hG (zr (k := 56) (t2 := 105) hG ha rfl) (n := 6) rfl rfl) (by omega) (by omega) (j := 1) rfl dX12_lot_161 ?_
                      obtain ⟨s32, e_s32⟩ : ∃ z, z = zU s31 (gP G a 56) 1 ((s12 (gP G a 56) 1)) := ⟨_, rfl⟩
                      rw [← e_s32]
                      have hS_s32 : zSK G s32 := by rw [e_s32]; exact zSK_A hS_s31 (zr (k := 56) (t2 := 105) hG ha rfl) rfl rfl rfl (by omega)
                      refine j_aload_n hx 0 dX12_lot_162 rfl ?_
                      have f161 := zf hS_s29 ha (k := 54) rfl
                      refine g13_54 hx hG ha kf_RX12_441 (v := (s29 a 54)) (by rw [e_s32, zU_at (Or.inl (zne (zr (k := 56) (t2 := 105) hG ha rfl) ha (by decide))), e_s31, zU_at (Or.inl (zne (zr (k := 56) (t2 := 105) hG ha rfl) ha (by decide))), (zFr_g hF_s30 ha (by decide))]) dX12_lot_163 ?_
                      refine j_iconst hx dX12_lot_166 ?_
                      refine j_icmp_eq hx 185 dX12_lot_167 rfl (by omega) ⟨by decide, by decide⟩ (fun h162 => ?_) (fun h162 => ?_)
                      · skip
                        refine j_aload_n hx 0 dX12_lot_185 rfl ?_
                        refine g13_56 hx hG ha kf_RX12_121 dX12_lot_186 ?_
                        refine j_iconst hx dX12_lot_189 ?_
                        refine j_dup2 hx dX12_lot_190 rfl rfl ?_
                        have f163 := zaI (j := 5) hS_s12 (zr (k := 56) (t2 := 105) hG ha rfl) rfl (zlen hG (zr (k := 56) (t2 := 105) hG ha rfl) (n := 6) rfl rfl) (show 0 ≤ 5 by omega) (by omega) rfl
                        refine j_iald hx hG (zr (k := 56) (t2 := 105) hG ha rfl) (by decide) rfl (zlen hG (zr (k := 56) (t2 := 105) hG ha rfl) (n := 6) rfl rfl) (by omega) (by omega) (j := 5) rfl (v := (s12 (gP G a 56) 5)) (by rw [e_s32, zU_at (Or.inr (by decide)), e_s31, zU_at (Or.inr (by decide)), (zFr_g hF_s30 (zr (k := 56) (t2 := 105) hG ha rfl) (by decide)), (zFr_g hF_s29 (zr (k := 56) (t2 := 105) hG ha rfl) (by decide)), (zFr_g hF_s28 (zr (k := 56) (t2 := 105) hG ha rfl) (by decide))]) dX12_lot_191 ?_
                        refine j_aload_n hx 0 dX12_lot_192 rfl ?_
                        have f164 := zf hS_s29 ha (k := 51) rfl
                        refine g13_51 hx hG ha kf_RX12_432 (v := (s29 a 51)) (by rw [e_s32, zU_at (Or.inl (zne (zr (k := 56) (t2 := 105) hG ha rfl) ha (by decide))), e_s31, zU_at (Or.inl (zne (zr (k := 56) (t2 := 105) hG ha rfl) ha (by decide))), (zFr_g hF_s30 ha (by decide))]) dX12_lot_193 ?_
                        refine j_iconst hx dX12_lot_196 ?_
                        refine j_icmp_ne hx 204 dX12_lot_197 rfl (by omega) ⟨by decide, by decide⟩ (fun h165 => ?_) (fun h165 => ?_)
                        · skip
                          refine j_iconst hx dX12_lot_204 ?_
                          refine j_iadd hx (r := (s12 (gP G a 56) 5) + 1) dX12_lot_205 (by omega) ?_
                          refine j_norm (fun v166 f167 f168 f169 => ?_)
                          refine j_iast hx hG (zr (k := 56) (t2 := 105) hG ha rfl) (by decide) rfl (zlen hG (zr (k := 56) (t2 := 105) hG ha rfl) (n := 6) rfl rfl) (by omega) (by omega) (j := 5) rfl dX12_lot_206 ?_
                          obtain ⟨s33, e_s33⟩ : ∃ z, z = zU s32 (gP G a 56) 5 v166 := ⟨_, rfl⟩
                          rw [← e_s33]
                          have hS_s33 : zSK G s33 := by rw [e_s33]; exact zSK_A hS_s32 (zr (k := 56) (t2 := 105) hG ha rfl) rfl rfl rfl (by omega)
                          refine j_iinc hx 4 [(4, .int (zI (v92 + 1))), (0, .ref a), (1, .int (zI x1)), (2, .int (zI x2)), (3, .int (zI x3))] dX12_lot_207 rfl (by omega) (by decide) rfl ?_
                          refine j_goto hx 71 dX12_lot_210 rfl ?_
                          have g170 : s33 a 0 = s29 a 0 := (by rw [e_s33, zU_at (Or.inl (zne (zr (k := 56) (t2 := 105) hG ha rfl) ha (by decide))), e_s32, zU_at (Or.inl (zne (zr (k := 56) (t2 := 105) hG ha rfl) ha (by decide))), e_s31, zU_at (Or.inl (zne (zr (k := 56) (t2 := 105) hG ha rfl) ha (by decide))), (zFr_g hF_s30 ha (by decide))])
                          have f171 := zf hS_s29 ha (k := 0) rfl
                          have g172 : s33 a 3 = s29 a 3 := (by rw [e_s33, zU_at (Or.inl (zne (zr (k := 56) (t2 := 105) hG ha rfl) ha (by decide))), e_s32, zU_at (Or.inl (zne (zr (k := 56) (t2 := 105) hG ha rfl) ha (by decide))), e_s31, zU_at (Or.inl (zne (zr (k := 56) (t2 := 105) hG ha rfl) ha (by decide))), (zFr_g hF_s30 ha (by decide))])
                          have f173 := zf hS_s29 ha (k := 3) rfl
                          have g174 : s33 a 4 = s29 a 4 := (by rw [e_s33, zU_at (Or.inl (zne (zr (k := 56) (t2 := 105) hG ha rfl) ha (by decide))), e_s32, zU_at (Or.inl (zne (zr (k := 56) (t2 := 105) hG ha rfl) ha (by decide))), e_s31, zU_at (Or.inl (zne (zr (k := 56) (t2 := 105) hG ha rfl) ha (by decide))), (zFr_g hF_s30 ha (by decide))])
                          have f175 := zf hS_s29 ha (k := 4) rfl
                          have g176 : s33 a 5 = s29 a 5 := (by rw [e_s33, zU_at (Or.inl (zne (zr (k := 56) (t2 := 105) hG ha rfl) ha (by decide))), e_s32, zU_at (Or.inl (zne (zr (k := 56) (t2 := 105) hG ha rfl) ha (by decide))), e_s31, zU_at (Or.inl (zne (zr (k := 56) (t2 := 105) hG ha rfl) ha (by decide))), (zFr_g hF_s30 ha (by decide))])
                          have f177 := zf hS_s29 ha (k := 5) rfl
                          have g178 : s33 a 7 = s29 a 7 := (by rw [e_s33, zU_at (Or.inl (zne (zr (k := 56) (t2 := 105) hG ha rfl) ha (by decide))), e_s32, zU_at (Or.inl (zne (zr (k := 56) (t2 := 105) hG ha rfl) ha (by decide))), e_s31, zU_at (Or.inl (zne (zr (k := 56) (t2 := 105) hG ha rfl) ha (by decide))), (zFr_g hF_s30 ha (by decide))])
                          have f179 := zf hS_s29 ha (k := 7) rfl
                          have g180 : s33 a 21 = s29 a 21 := (by rw [e_s33, zU_at (Or.inl (zne (zr (k := 56) (t2 := 105) hG ha rfl) ha (by decide))), e_s32, zU_at (Or.inl (zne (zr (k := 56) (t2 := 105) hG ha rfl) ha (by decide))), e_s31, zU_at (Or.inl (zne (zr (k := 56) (t2 := 105) hG ha rfl) ha (by decide))), (zFr_g hF_s30 ha (by decide))])
                          have f181 := zf hS_s29 ha (k := 21) rfl
                          have g182 : s33 a 22 = s29 a 22 := (by rw [e_s33, zU_at (Or.inl (zne (zr (k := 56) (t2 := 105) hG ha rfl) ha (by decide))), e_s32, zU_at (Or.inl (zne (zr (k := 56) (t2 := 105) hG ha rfl) ha (by decide))), e_s31, zU_at (Or.inl (zne (zr (k := 56) (t2 := 105) hG ha rfl) ha (by decide))), (zFr_g hF_s30 ha (by decide))])
                          have f183 := zf hS_s29 ha (k := 22) rfl
                          have g184 : s33 a 23 = s29 a 23 := (by rw [e_s33, zU_at (Or.inl (zne (zr (k := 56) (t2 := 105) hG ha rfl) ha (by decide))), e_s32, zU_at (Or.inl (zne (zr (k := 56) (t2 := 105) hG ha rfl) ha (by decide))), e_s31, zU_at (Or.inl (zne (zr (k := 56) (t2 := 105) hG ha rfl) ha (by decide))), (zFr_g hF_s30 ha (by decide))])
                          have f185 := zf hS_s29 ha (k := 23) rfl
                          have g186 : s33 a 24 = s29 a 24 := (by rw [e_s33, zU_at (Or.inl (zne (zr (k := 56) (t2 := 105) hG ha rfl) ha (by decide))), e_s32, zU_at (Or.inl (zne (zr (k := 56) (t2 := 105) hG ha rfl) ha (by decide))), e_s31, zU_at (Or.inl (zne (zr (k := 56) (t2 := 105) hG ha rfl) ha (by decide))), (zFr_g hF_s30 ha (by decide))])
                          have f187 := zf hS_s29 ha (k := 24) rfl
                          have g188 : s33 a 38 = s29 a 38 := (by rw [e_s33, zU_at (Or.inl (zne (zr (k := 56) (t2 := 105) hG ha rfl) ha (by decide))), e_s32, zU_at (Or.inl (zne (zr (k := 56) (t2 := 105) hG ha rfl) ha (by decide))), e_s31, zU_at (Or.inl (zne (zr (k := 56) (t2 := 105) hG ha rfl) ha (by decide))), (zFr_g hF_s30 ha (by decide))])
                          have f189 := zf hS_s29 ha (k := 38) rfl
                          have g190 : zc (s33 (gP G a 27)) = zc (s30 (gP G a 27)) := by rw [e_s33, zU_ne (zne (zr (k := 56) (t2 := 105) hG ha rfl) (zr (k := 27) (t2 := 84) hG ha rfl) (by decide)), e_s32, zU_ne (zne (zr (k := 56) (t2 := 105) hG ha rfl) (zr (k := 27) (t2 := 84) hG ha rfl) (by decide)), e_s31, zU_ne (zne (zr (k := 56) (t2 := 105) hG ha rfl) (zr (k := 27) (t2 := 84) hG ha rfl) (by decide))]
                          have g191 : s33 (gP G a 27) 488 = s30 (gP G a 27) 488 := (by rw [e_s33, zU_at (Or.inl (zne (zr (k := 56) (t2 := 105) hG ha rfl) (zr (k := 27) (t2 := 84) hG ha rfl) (by decide))), e_s32, zU_at (Or.inl (zne (zr (k := 56) (t2 := 105) hG ha rfl) (zr (k := 27) (t2 := 84) hG ha rfl) (by decide))), e_s31, zU_at (Or.inl (zne (zr (k := 56) (t2 := 105) hG ha rfl) (zr (k := 27) (t2 := 84) hG ha rfl) (by decide)))])
                          exact j_sub [1, 2, 3, 4, 0] [(0, .ref a), (1, .int (zI x1)), (2, .int (zI x2)), (3, .int (zI x3)), (4, .int (zI (v92 + 1)))] rfl (ih_c71_11 (v92 + 1) s33 (by omega) (by omega) hS_s33 (zFr_u (zFr_u (zFr_u (zFr_t (zFr_t (zFr_t (zFr_t zFr_rf hF_s12 (by decide)) hF_s28 (by decide)) hF_s29 (by decide)) hF_s30 (by decide)) e_s31 (zr (k := 56) (t2 := 105) hG ha rfl) (by decide)) e_s32 (zr (k := 56) (t2 := 105) hG ha rfl) (by decide)) e_s33 (zr (k := 56) (t2 := 105) hG ha rfl) (by decide)) (by omega) (by omega) (by omega) (by omega) (by omega) (by omega) (by omega) (by omega) (by omega) (by omega) (by omega) (by omega))
                        · skip
                          refine j_iconst hx dX12_lot_200 ?_
                          refine j_goto hx 205 dX12_lot_201 rfl ?_
                          refine j_iadd hx (r := (s12 (gP G a 56) 5)) dX12_lot_205 (by omega) ?_
                          refine j_iast hx hG (zr (k := 56) (t2 := 105) hG ha rfl) (by decide) rfl (zlen hG (zr (k := 56) (t2 := 105) hG ha rfl) (n := 6) rfl rfl) (by omega) (by omega) (j := 5) rfl dX12_lot_206 ?_
                          obtain ⟨s34, e_s34⟩ : ∃ z, z = zU s32 (gP G a 56) 5 ((s12 (gP G a 56) 5)) := ⟨_, rfl⟩
                          rw [← e_s34]
                          have hS_s34 : zSK G s34 := by rw [e_s34]; exact zSK_A hS_s32 (zr (k := 56) (t2 := 105) hG ha rfl) rfl rfl rfl (by omega)
                          refine j_iinc hx 4 [(4, .int (zI (v92 + 1))), (0, .ref a), (1, .int (zI x1)), (2, .int (zI x2)), (3, .int (zI x3))] dX12_lot_207 rfl (by omega) (by decide) rfl ?_
                          refine j_goto hx 71 dX12_lot_210 rfl ?_
                          have g192 : s34 a 0 = s29 a 0 := (by rw [e_s34, zU_at (Or.inl (zne (zr (k := 56) (t2 := 105) hG ha rfl) ha (by decide))), e_s32, zU_at (Or.inl (zne (zr (k := 56) (t2 := 105) hG ha rfl) ha (by decide))), e_s31, zU_at (Or.inl (zne (zr (k := 56) (t2 := 105) hG ha rfl) ha (by decide))), (zFr_g hF_s30 ha (by decide))])
                          have f193 := zf hS_s29 ha (k := 0) rfl
                          have g194 : s34 a 3 = s29 a 3 := (by rw [e_s34, zU_at (Or.inl (zne (zr (k := 56) (t2 := 105) hG ha rfl) ha (by decide))), e_s32, zU_at (Or.inl (zne (zr (k := 56) (t2 := 105) hG ha rfl) ha (by decide))), e_s31, zU_at (Or.inl (zne (zr (k := 56) (t2 := 105) hG ha rfl) ha (by decide))), (zFr_g hF_s30 ha (by decide))])
                          have f195 := zf hS_s29 ha (k := 3) rfl
                          have g196 : s34 a 4 = s29 a 4 := (by rw [e_s34, zU_at (Or.inl (zne (zr (k := 56) (t2 := 105) hG ha rfl) ha (by decide))), e_s32, zU_at (Or.inl (zne (zr (k := 56) (t2 := 105) hG ha rfl) ha (by decide))), e_s31, zU_at (Or.inl (zne (zr (k := 56) (t2 := 105) hG ha rfl) ha (by decide))), (zFr_g hF_s30 ha (by decide))])
                          have f197 := zf hS_s29 ha (k := 4) rfl
                          have g198 : s34 a 5 = s29 a 5 := (by rw [e_s34, zU_at (Or.inl (zne (zr (k := 56) (t2 := 105) hG ha rfl) ha (by decide))), e_s32, zU_at (Or.inl (zne (zr (k := 56) (t2 := 105) hG ha rfl) ha (by decide))), e_s31, zU_at (Or.inl (zne (zr (k := 56) (t2 := 105) hG ha rfl) ha (by decide))), (zFr_g hF_s30 ha (by decide))])
                          have f199 := zf hS_s29 ha (k := 5) rfl
                          have g200 : s34 a 7 = s29 a 7 := (by rw [e_s34, zU_at (Or.inl (zne (zr (k := 56) (t2 := 105) hG ha rfl) ha (by decide))), e_s32, zU_at (Or.inl (zne (zr (k := 56) (t2 := 105) hG ha rfl) ha (by decide))), e_s31, zU_at (Or.inl (zne (zr (k := 56) (t2 := 105) hG ha rfl) ha (by decide))), (zFr_g hF_s30 ha (by decide))])
                          have f201 := zf hS_s29 ha (k := 7) rfl
                          have g202 : s34 a 21 = s29 a 21 := (by rw [e_s34, zU_at (Or.inl (zne (zr (k := 56) (t2 := 105) hG ha rfl) ha (by decide))), e_s32, zU_at (Or.inl (zne (zr (k := 56) (t2 := 105) hG ha rfl) ha (by decide))), e_s31, zU_at (Or.inl (zne (zr (k := 56) (t2 := 105) hG ha rfl) ha (by decide))), (zFr_g hF_s30 ha (by decide))])
                          have f203 := zf hS_s29 ha (k := 21) rfl
                          have g204 : s34 a 22 = s29 a 22 := (by rw [e_s34, zU_at (Or.inl (zne (zr (k := 56) (t2 := 105) hG ha rfl) ha (by decide))), e_s32, zU_at (Or.inl (zne (zr (k := 56) (t2 := 105) hG ha rfl) ha (by decide))), e_s31, zU_at (Or.inl (zne (zr (k := 56) (t2 := 105) hG ha rfl) ha (by decide))), (zFr_g hF_s30 ha (by decide))])
                          have f205 := zf hS_s29 ha (k := 22) rfl
                          have g206 : s34 a 23 = s29 a 23 := (by rw [e_s34, zU_at (Or.inl (zne (zr (k := 56) (t2 := 105) hG ha rfl) ha (by decide))), e_s32, zU_at (Or.inl (zne (zr (k := 56) (t2 := 105) hG ha rfl) ha (by decide))), e_s31, zU_at (Or.inl (zne (zr (k := 56) (t2 := 105) hG ha rfl) ha (by decide))), (zFr_g hF_s30 ha (by decide))])
                          have f207 := zf hS_s29 ha (k := 23) rfl
                          have g208 : s34 a 24 = s29 a 24 := (by rw [e_s34, zU_at (Or.inl (zne (zr (k := 56) (t2 := 105) hG ha rfl) ha (by decide))), e_s32, zU_at (Or.inl (zne (zr (k := 56) (t2 := 105) hG ha rfl) ha (by decide))), e_s31, zU_at (Or.inl (zne (zr (k := 56) (t2 := 105) hG ha rfl) ha (by decide))), (zFr_g hF_s30 ha (by decide))])
                          have f209 := zf hS_s29 ha (k := 24) rfl
                          have g210 : s34 a 38 = s29 a 38 := (by rw [e_s34, zU_at (Or.inl (zne (zr (k := 56) (t2 := 105) hG ha rfl) ha (by decide))), e_s32, zU_at (Or.inl (zne (zr (k := 56) (t2 := 105) hG ha rfl) ha (by decide))), e_s31, zU_at (Or.inl (zne (zr (k := 56) (t2 := 105) hG ha rfl) ha (by decide))), (zFr_g hF_s30 ha (by decide))])
                          have f211 := zf hS_s29 ha (k := 38) rfl
                          have g212 : zc (s34 (gP G a 27)) = zc (s30 (gP G a 27)) := by rw [e_s34, zU_ne (zne (zr (k := 56) (t2 := 105) hG ha rfl) (zr (k := 27) (t2 := 84) hG ha rfl) (by decide)), e_s32, zU_ne (zne (zr (k := 56) (t2 := 105) hG ha rfl) (zr (k := 27) (t2 := 84) hG ha rfl) (by decide)), e_s31, zU_ne (zne (zr (k := 56) (t2 := 105) hG ha rfl) (zr (k := 27) (t2 := 84) hG ha rfl) (by decide))]
                          have g213 : s34 (gP G a 27) 488 = s30 (gP G a 27) 488 := (by rw [e_s34, zU_at (Or.inl (zne (zr (k := 56) (t2 := 105) hG ha rfl) (zr (k := 27) (t2 := 84) hG ha rfl) (by decide))), e_s32, zU_at (Or.inl (zne (zr (k := 56) (t2 := 105) hG ha rfl) (zr (k := 27) (t2 := 84) hG ha rfl) (by decide))), e_s31, zU_at (Or.inl (zne (zr (k := 56) (t2 := 105) hG ha rfl) (zr (k := 27) (t2 := 84) hG ha rfl) (by decide)))])
                          exact j_sub [1, 2, 3, 4, 0] [(0, .ref a), (1, .int (zI x1)), (2, .int (zI x2)), (3, .int (zI x3)), (4, .int (zI (v92 + 1)))] rfl (ih_c71_11 (v92 + 1) s34 (by omega) (by omega) hS_s34 (zFr_u (zFr_u (zFr_u (zFr_t (zFr_t (zFr_t (zFr_t zFr_rf hF_s12 (by decide)) hF_s28 (by decide)) hF_s29 (by decide)) hF_s30 (by decide)) e_s31 (zr (k := 56) (t2 := 105) hG ha rfl) (by decide)) e_s32 (zr (k := 56) (t2 := 105) hG ha rfl) (by decide)) e_s34 (zr (k := 56) (t2 := 105) hG ha rfl) (by decide)) (by omega) (by omega) (by omega) (by omega) (by omega) (by omega) (by omega) (by omega) (by omega) (by omega) (by omega) (by omega))
                      · skip
                        refine j_aload_n hx 0 dX12_lot_170 rfl ?_
                        refine g13_56 hx hG ha kf_RX12_121 dX12_lot_171 ?_
                        refine j_iconst hx dX12_lot_174 ?_
                        refine j_aload_n hx 0 dX12_lot_175 rfl ?_
                        refine g13_54 hx hG ha kf_RX12_441 (v := (s29 a 54)) (by rw [e_s32, zU_at (Or.inl (zne (zr (k := 56) (t2 := 105) hG ha rfl) ha (by decide))), e_s31, zU_at (Or.inl (zne (zr (k := 56) (t2 := 105) hG ha rfl) ha (by decide))), (zFr_g hF_s30 ha (by decide))]) dX12_lot_176 ?_
                        refine j_iadd hx (r := (s29 a 54) + 2) dX12_lot_179 (by omega) ?_
                        refine j_dup2 hx dX12_lot_180 rfl rfl ?_
                        have f214 := zaI (j := ((s29 a 54) + 2).toNat) hS_s12 (zr (k := 56) (t2 := 105) hG ha rfl) rfl (zlen hG (zr (k := 56) (t2 := 105) hG ha rfl) (n := 6) rfl rfl) (show 0 ≤ (s29 a 54) + 2 by omega) (by omega) rfl
                        refine j_iald hx hG (zr (k := 56) (t2 := 105) hG ha rfl) (by decide) rfl (zlen hG (zr (k := 56) (t2 := 105) hG ha rfl) (n := 6) rfl rfl) (by omega) (by omega) (j := ((s29 a 54) + 2).toNat) rfl (v := (s12 (gP G a 56) ((s29 a 54) + 2).toNat)) (by rw [e_s32, zU_at (Or.inr (by omega)), e_s31, zU_at (Or.inr (by omega)), (zFr_g hF_s30 (zr (k := 56) (t2 := 105) hG ha rfl) (by decide)), (zFr_g hF_s29 (zr (k := 56) (t2 := 105) hG ha rfl) (by decide)), (zFr_g hF_s28 (zr (k := 56) (t2 := 105) hG ha rfl) (by decide))]) dX12_lot_181 ?_
                        refine j_iconst hx dX12_lot_182 ?_
                        refine j_iadd hx (r := (s12 (gP G a 56) ((s29 a 54) + 2).toNat) + 1) dX12_lot_183 (by omega) ?_
                        refine j_norm (fun v215 f216 f217 f218 => ?_)
                        refine j_iast hx hG (zr (k := 56) (t2 := 105) hG ha rfl) (by decide) rfl (zlen hG (zr (k := 56) (t2 := 105) hG ha rfl) (n := 6) rfl rfl) (by omega) (by omega) (j := ((s29 a 54) + 2).toNat) rfl dX12_lot_184 ?_
                        obtain ⟨s35, e_s35⟩ : ∃ z, z = zU s32 (gP G a 56) ((s29 a 54) + 2).toNat v215 := ⟨_, rfl⟩
                        rw [← e_s35]
                        have hS_s35 : zSK G s35 := by rw [e_s35]; exact zSK_A hS_s32 (zr (k := 56) (t2 := 105) hG ha rfl) rfl rfl rfl (by omega)
                        refine j_aload_n hx 0 dX12_lot_185 rfl ?_
                        refine g13_56 hx hG ha kf_RX12_121 dX12_lot_186 ?_
                        refine j_iconst hx dX12_lot_189 ?_
                        refine j_dup2 hx dX12_lot_190 rfl rfl ?_
                        have f219 := zaI (j := 5) hS_s12 (zr (k := 56) (t2 := 105) hG ha rfl) rfl (zlen hG (zr (k := 56) (t2 := 105) hG ha rfl) (n := 6) rfl rfl) (show 0 ≤ 5 by omega) (by omega) rfl
                        refine j_iald hx hG (zr (k := 56) (t2 := 105) hG ha rfl) (by decide) rfl (zlen hG (zr (k := 56) (t2 := 105) hG ha rfl) (n := 6) rfl rfl) (by omega) (by omega) (j := 5) rfl (v := (s12 (gP G a 56) 5)) (by rw [e_s35, zU_at (Or.inr (by omega)), e_s32, zU_at (Or.inr (by decide)), e_s31, zU_at (Or.inr (by decide)), (zFr_g hF_s30 (zr (k := 56) (t2 := 105) hG ha rfl) (by decide)), (zFr_g hF_s29 (zr (k := 56) (t2 := 105) hG ha rfl) (by decide)), (zFr_g hF_s28 (zr (k := 56) (t2 := 105) hG ha rfl) (by decide))]) dX12_lot_191 ?_
                        refine j_aload_n hx 0 dX12_lot_192 rfl ?_
                        have f220 := zf hS_s29 ha (k := 51) rfl
                        refine g13_51 hx hG ha kf_RX12_432 (v := (s29 a 51)) (by rw [e_s35, zU_at (Or.inl (zne (zr (k := 56) (t2 := 105) hG ha rfl) ha (by decide))), e_s32, zU_at (Or.inl (zne (zr (k := 56) (t2 := 105) hG ha rfl) ha (by decide))), e_s31, zU_at (Or.inl (zne (zr (k := 56) (t2 := 105) hG ha rfl) ha (by decide))), (zFr_g hF_s30 ha (by decide))]) dX12_lot_193 ?_
                        refine j_iconst hx dX12_lot_196 ?_
                        refine j_icmp_ne hx 204 dX12_lot_197 rfl (by omega) ⟨by decide, by decide⟩ (fun h221 => ?_) (fun h221 => ?_)
                        · skip
                          refine j_iconst hx dX12_lot_204 ?_
                          refine j_iadd hx (r := (s12 (gP G a 56) 5) + 1) dX12_lot_205 (by omega) ?_
                          refine j_norm (fun v222 f223 f224 f225 => ?_)
                          refine j_iast hx hG (zr (k := 56) (t2 := 105) hG ha rfl) (by decide) rfl (zlen hG (zr (k := 56) (t2 := 105) hG ha rfl) (n := 6) rfl rfl) (by omega) (by omega) (j := 5) rfl dX12_lot_206 ?_
                          obtain ⟨s36, e_s36⟩ : ∃ z, z = zU s35 (gP G a 56) 5 v222 := ⟨_, rfl⟩
                          rw [← e_s36]
                          have hS_s36 : zSK G s36 := by rw [e_s36]; exact zSK_A hS_s35 (zr (k := 56) (t2 := 105) hG ha rfl) rfl rfl rfl (by omega)
                          refine j_iinc hx 4 [(4, .int (zI (v92 + 1))), (0, .ref a), (1, .int (zI x1)), (2, .int (zI x2)), (3, .int (zI x3))] dX12_lot_207 rfl (by omega) (by decide) rfl ?_
                          refine j_goto hx 71 dX12_lot_210 rfl ?_
                          have g226 : s36 a 0 = s29 a 0 := (by rw [e_s36, zU_at (Or.inl (zne (zr (k := 56) (t2 := 105) hG ha rfl) ha (by decide))), e_s35, zU_at (Or.inl (zne (zr (k := 56) (t2 := 105) hG ha rfl) ha (by decide))), e_s32, zU_at (Or.inl (zne (zr (k := 56) (t2 := 105) hG ha rfl) ha (by decide))), e_s31, zU_at (Or.inl (zne (zr (k := 56) (t2 := 105) hG ha rfl) ha (by decide))), (zFr_g hF_s30 ha (by decide))])
                          have f227 := zf hS_s29 ha (k := 0) rfl
                          have g228 : s36 a 3 = s29 a 3 := (by rw [e_s36, zU_at (Or.inl (zne (zr (k := 56) (t2 := 105) hG ha rfl) ha (by decide))), e_s35, zU_at (Or.inl (zne (zr (k := 56) (t2 := 105) hG ha rfl) ha (by decide))), e_s32, zU_at (Or.inl (zne (zr (k := 56) (t2 := 105) hG ha rfl) ha (by decide))), e_s31, zU_at (Or.inl (zne (zr (k := 56) (t2 := 105) hG ha rfl) ha (by decide))), (zFr_g hF_s30 ha (by decide))])
                          have f229 := zf hS_s29 ha (k := 3) rfl
                          have g230 : s36 a 4 = s29 a 4 := (by rw [e_s36, zU_at (Or.inl (zne (zr (k := 56) (t2 := 105) hG ha rfl) ha (by decide))), e_s35, zU_at (Or.inl (zne (zr (k := 56) (t2 := 105) hG ha rfl) ha (by decide))), e_s32, zU_at (Or.inl (zne (zr (k := 56) (t2 := 105) hG ha rfl) ha (by decide))), e_s31, zU_at (Or.inl (zne (zr (k := 56) (t2 := 105) hG ha rfl) ha (by decide))), (zFr_g hF_s30 ha (by decide))])
                          have f231 := zf hS_s29 ha (k := 4) rfl
                          have g232 : s36 a 5 = s29 a 5 := (by rw [e_s36, zU_at (Or.inl (zne (zr (k := 56) (t2 := 105) hG ha rfl) ha (by decide))), e_s35, zU_at (Or.inl (zne (zr (k := 56) (t2 := 105) hG ha rfl) ha (by decide))), e_s32, zU_at (Or.inl (zne (zr (k := 56) (t2 := 105) hG ha rfl) ha (by decide))), e_s31, zU_at (Or.inl (zne (zr (k := 56) (t2 := 105) hG ha rfl) ha (by decide))), (zFr_g hF_s30 ha (by decide))])
                          have f233 := zf hS_s29 ha (k := 5) rfl
                          have g234 : s36 a 7 = s29 a 7 := (by rw [e_s36, zU_at (Or.inl (zne (zr (k := 56) (t2 := 105) hG ha rfl) ha (by decide))), e_s35, zU_at (Or.inl (zne (zr (k := 56) (t2 := 105) hG ha rfl) ha (by decide))), e_s32, zU_at (Or.inl (zne (zr (k := 56) (t2 := 105) hG ha rfl) ha (by decide))), e_s31, zU_at (Or.inl (zne (zr (k := 56) (t2 := 105) hG ha rfl) ha (by decide))), (zFr_g hF_s30 ha (by decide))])
                          have f235 := zf hS_s29 ha (k := 7) rfl
                          have g236 : s36 a 21 = s29 a 21 := (by rw [e_s36, zU_at (Or.inl (zne (zr (k := 56) (t2 := 105) hG ha rfl) ha (by decide))), e_s35, zU_at (Or.inl (zne (zr (k := 56) (t2 := 105) hG ha rfl) ha (by decide))), e_s32, zU_at (Or.inl (zne (zr (k := 56) (t2 := 105) hG ha rfl) ha (by decide))), e_s31, zU_at (Or.inl (zne (zr (k := 56) (t2 := 105) hG ha rfl) ha (by decide))), (zFr_g hF_s30 ha (by decide))])
                          have f237 := zf hS_s29 ha (k := 21) rfl
                          have g238 : s36 a 22 = s29 a 22 := (by rw [e_s36, zU_at (Or.inl (zne (zr (k := 56) (t2 := 105) hG ha rfl) ha (by decide))), e_s35, zU_at (Or.inl (zne (zr (k := 56) (t2 := 105) hG ha rfl) ha (by decide))), e_s32, zU_at (Or.inl (zne (zr (k := 56) (t2 := 105) hG ha rfl) ha (by decide))), e_s31, zU_at (Or.inl (zne (zr (k := 56) (t2 := 105) hG ha rfl) ha (by decide))), (zFr_g hF_s30 ha (by decide))])
                          have f239 := zf hS_s29 ha (k := 22) rfl
                          have g240 : s36 a 23 = s29 a 23 := (by rw [e_s36, zU_at (Or.inl (zne (zr (k := 56) (t2 := 105) hG ha rfl) ha (by decide))), e_s35, zU_at (Or.inl (zne (zr (k := 56) (t2 := 105) hG ha rfl) ha (by decide))), e_s32, zU_at (Or.inl (zne (zr (k := 56) (t2 := 105) hG ha rfl) ha (by decide))), e_s31, zU_at (Or.inl (zne (zr (k := 56) (t2 := 105) hG ha rfl) ha (by decide))), (zFr_g hF_s30 ha (by decide))])
                          have f241 := zf hS_s29 ha (k := 23) rfl
                          have g242 : s36 a 24 = s29 a 24 := (by rw [e_s36, zU_at (Or.inl (zne (zr (k := 56) (t2 := 105) hG ha rfl) ha (by decide))), e_s35, zU_at (Or.inl (zne (zr (k := 56) (t2 := 105) hG ha rfl) ha (by decide))), e_s32, zU_at (Or.inl (zne (zr (k := 56) (t2 := 105) hG ha rfl) ha (by decide))), e_s31, zU_at (Or.inl (zne (zr (k := 56) (t2 := 105) hG ha rfl) ha (by decide))), (zFr_g hF_s30 ha (by decide))])
                          have f243 := zf hS_s29 ha (k := 24) rfl
                          have g244 : s36 a 38 = s29 a 38 := (by rw [e_s36, zU_at (Or.inl (zne (zr (k := 56) (t2 := 105) hG ha rfl) ha (by decide))), e_s35, zU_at (Or.inl (zne (zr (k := 56) (t2 := 105) hG ha rfl) ha (by decide))), e_s32, zU_at (Or.inl (zne (zr (k := 56) (t2 := 105) hG ha rfl) ha (by decide))), e_s31, zU_at (Or.inl (zne (zr (k := 56) (t2 := 105) hG ha rfl) ha (by decide))), (zFr_g hF_s30 ha (by decide))])
                          have f245 := zf hS_s29 ha (k := 38) rfl
                          have g246 : zc (s36 (gP G a 27)) = zc (s30 (gP G a 27)) := by rw [e_s36, zU_ne (zne (zr (k := 56) (t2 := 105) hG ha rfl) (zr (k := 27) (t2 := 84) hG ha rfl) (by decide)), e_s35, zU_ne (zne (zr (k := 56) (t2 := 105) hG ha rfl) (zr (k := 27) (t2 := 84) hG ha rfl) (by decide)), e_s32, zU_ne (zne (zr (k := 56) (t2 := 105) hG ha rfl) (zr (k := 27) (t2 := 84) hG ha rfl) (by decide)), e_s31, zU_ne (zne (zr (k := 56) (t2 := 105) hG ha rfl) (zr (k := 27) (t2 := 84) hG ha rfl) (by decide))]
                          have g247 : s36 (gP G a 27) 488 = s30 (gP G a 27) 488 := (by rw [e_s36, zU_at (Or.inl (zne (zr (k := 56) (t2 := 105) hG ha rfl) (zr (k := 27) (t2 := 84) hG ha rfl) (by decide))), e_s35, zU_at (Or.inl (zne (zr (k := 56) (t2 := 105) hG ha rfl) (zr (k := 27) (t2 := 84) hG ha rfl) (by decide))), e_s32, zU_at (Or.inl (zne (zr (k := 56) (t2 := 105) hG ha rfl) (zr (k := 27) (t2 := 84) hG ha rfl) (by decide))), e_s31, zU_at (Or.inl (zne (zr (k := 56) (t2 := 105) hG ha rfl) (zr (k := 27) (t2 := 84) hG ha rfl) (by decide)))])
                          exact j_sub [1, 2, 3, 4, 0] [(0, .ref a), (1, .int (zI x1)), (2, .int (zI x2)), (3, .int (zI x3)), (4, .int (zI (v92 + 1)))] rfl (ih_c71_11 (v92 + 1) s36 (by omega) (by omega) hS_s36 (zFr_u (zFr_u (zFr_u (zFr_u (zFr_t (zFr_t (zFr_t (zFr_t zFr_rf hF_s12 (by decide)) hF_s28 (by decide)) hF_s29 (by decide)) hF_s30 (by decide)) e_s31 (zr (k := 56) (t2 := 105) hG ha rfl) (by decide)) e_s32 (zr (k := 56) (t2 := 105) hG ha rfl) (by decide)) e_s35 (zr (k := 56) (t2 := 105) hG ha rfl) (by decide)) e_s36 (zr (k := 56) (t2 := 105) hG ha rfl) (by decide)) (by omega) (by omega) (by omega) (by omega) (by omega) (by omega) (by omega) (by omega) (by omega) (by omega) (by omega) (by omega))
                        · skip
                          refine j_iconst hx dX12_lot_200 ?_
                          refine j_goto hx 205 dX12_lot_201 rfl ?_
                          refine j_iadd hx (r := (s12 (gP G a 56) 5)) dX12_lot_205 (by omega) ?_
                          refine j_iast hx hG (zr (k := 56) (t2 := 105) hG ha rfl) (by decide) rfl (zlen hG (zr (k := 56) (t2 := 105) hG ha rfl) (n := 6) rfl rfl) (by omega) (by omega) (j := 5) rfl dX12_lot_206 ?_
                          obtain ⟨s37, e_s37⟩ : ∃ z, z = zU s35 (gP G a 56) 5 ((s12 (gP G a 56) 5)) := ⟨_, rfl⟩
                          rw [← e_s37]
                          have hS_s37 : zSK G s37 := by rw [e_s37]; exact zSK_A hS_s35 (zr (k := 56) (t2 := 105) hG ha rfl) rfl rfl rfl (by omega)
                          refine j_iinc hx 4 [(4, .int (zI (v92 + 1))), (0, .ref a), (1, .int (zI x1)), (2, .int (zI x2)), (3, .int (zI x3))] dX12_lot_207 rfl (by omega) (by decide) rfl ?_
                          refine j_goto hx 71 dX12_lot_210 rfl ?_
                          have g248 : s37 a 0 = s29 a 0 := (by rw [e_s37, zU_at (Or.inl (zne (zr (k := 56) (t2 := 105) hG ha rfl) ha (by decide))), e_s35, zU_at (Or.inl (zne (zr (k := 56) (t2 := 105) hG ha rfl) ha (by decide))), e_s32, zU_at (Or.inl (zne (zr (k := 56) (t2 := 105) hG ha rfl) ha (by decide))), e_s31, zU_at (Or.inl (zne (zr (k := 56) (t2 := 105) hG ha rfl) ha (by decide))), (zFr_g hF_s30 ha (by decide))])
                          have f249 := zf hS_s29 ha (k := 0) rfl
                          have g250 : s37 a 3 = s29 a 3 := (by rw [e_s37, zU_at (Or.inl (zne (zr (k := 56) (t2 := 105) hG ha rfl) ha (by decide))), e_s35, zU_at (Or.inl (zne (zr (k := 56) (t2 := 105) hG ha rfl) ha (by decide))), e_s32, zU_at (Or.inl (zne (zr (k := 56) (t2 := 105) hG ha rfl) ha (by decide))), e_s31, zU_at (Or.inl (zne (zr (k := 56) (t2 := 105) hG ha rfl) ha (by decide))), (zFr_g hF_s30 ha (by decide))])
                          have f251 := zf hS_s29 ha (k := 3) rfl
                          have g252 : s37 a 4 = s29 a 4 := (by rw [e_s37, zU_at (Or.inl (zne (zr (k := 56) (t2 := 105) hG ha rfl) ha (by decide))), e_s35, zU_at (Or.inl (zne (zr (k := 56) (t2 := 105) hG ha rfl) ha (by decide))), e_s32, zU_at (Or.inl (zne (zr (k := 56) (t2 := 105) hG ha rfl) ha (by decide))), e_s31, zU_at (Or.inl (zne (zr (k := 56) (t2 := 105) hG ha rfl) ha (by decide))), (zFr_g hF_s30 ha (by decide))])
                          have f253 := zf hS_s29 ha (k := 4) rfl
                          have g254 : s37 a 5 = s29 a 5 := (by rw [e_s37, zU_at (Or.inl (zne (zr (k := 56) (t2 := 105) hG ha rfl) ha (by decide))), e_s35, zU_at (Or.inl (zne (zr (k := 56) (t2 := 105) hG ha rfl) ha (by decide))), e_s32, zU_at (Or.inl (zne (zr (k := 56) (t2 := 105) hG ha rfl) ha (by decide))), e_s31, zU_at (Or.inl (zne (zr (k := 56) (t2 := 105) hG ha rfl) ha (by decide))), (zFr_g hF_s30 ha (by decide))])
                          have f255 := zf hS_s29 ha (k := 5) rfl
                          have g256 : s37 a 7 = s29 a 7 := (by rw [e_s37, zU_at (Or.inl (zne (zr (k := 56) (t2 := 105) hG ha rfl) ha (by decide))), e_s35, zU_at (Or.inl (zne (zr (k := 56) (t2 := 105) hG ha rfl) ha (by decide))), e_s32, zU_at (Or.inl (zne (zr (k := 56) (t2 := 105) hG ha rfl) ha (by decide))), e_s31, zU_at (Or.inl (zne (zr (k := 56) (t2 := 105) hG ha rfl) ha (by decide))), (zFr_g hF_s30 ha (by decide))])
                          have f257 := zf hS_s29 ha (k := 7) rfl
                          have g258 : s37 a 21 = s29 a 21 := (by rw [e_s37, zU_at (Or.inl (zne (zr (k := 56) (t2 := 105) hG ha rfl) ha (by decide))), e_s35, zU_at (Or.inl (zne (zr (k := 56) (t2 := 105) hG ha rfl) ha (by decide))), e_s32, zU_at (Or.inl (zne (zr (k := 56) (t2 := 105) hG ha rfl) ha (by decide))), e_s31, zU_at (Or.inl (zne (zr (k := 56) (t2 := 105) hG ha rfl) ha (by decide))), (zFr_g hF_s30 ha (by decide))])
                          have f259 := zf hS_s29 ha (k := 21) rfl
                          have g260 : s37 a 22 = s29 a 22 := (by rw [e_s37, zU_at (Or.inl (zne (zr (k := 56) (t2 := 105) hG ha rfl) ha (by decide))), e_s35, zU_at (Or.inl (zne (zr (k := 56) (t2 := 105) hG ha rfl) ha (by decide))), e_s32, zU_at (Or.inl (zne (zr (k := 56) (t2 := 105) hG ha rfl) ha (by decide))), e_s31, zU_at (Or.inl (zne (zr (k := 56) (t2 := 105) hG ha rfl) ha (by decide))), (zFr_g hF_s30 ha (by decide))])
                          have f261 := zf hS_s29 ha (k := 22) rfl
                          have g262 : s37 a 23 = s29 a 23 := (by rw [e_s37, zU_at (Or.inl (zne (zr (k := 56) (t2 := 105) hG ha rfl) ha (by decide))), e_s35, zU_at (Or.inl (zne (zr (k := 56) (t2 := 105) hG ha rfl) ha (by decide))), e_s32, zU_at (Or.inl (zne (zr (k := 56) (t2 := 105) hG ha rfl) ha (by decide))), e_s31, zU_at (Or.inl (zne (zr (k := 56) (t2 := 105) hG ha rfl) ha (by decide))), (zFr_g hF_s30 ha (by decide))])
                          have f263 := zf hS_s29 ha (k := 23) rfl
                          have g264 : s37 a 24 = s29 a 24 := (by rw [e_s37, zU_at (Or.inl (zne (zr (k := 56) (t2 := 105) hG ha rfl) ha (by decide))), e_s35, zU_at (Or.inl (zne (zr (k := 56) (t2 := 105) hG ha rfl) ha (by decide))), e_s32, zU_at (Or.inl (zne (zr (k := 56) (t2 := 105) hG ha rfl) ha (by decide))), e_s31, zU_at (Or.inl (zne (zr (k := 56) (t2 := 105) hG ha rfl) ha (by decide))), (zFr_g hF_s30 ha (by decide))])
                          have f265 := zf hS_s29 ha (k := 24) rfl
                          have g266 : s37 a 38 = s29 a 38 := (by rw [e_s37, zU_at (Or.inl (zne (zr (k := 56) (t2 := 105) hG ha rfl) ha (by decide))), e_s35, zU_at (Or.inl (zne (zr (k := 56) (t2 := 105) hG ha rfl) ha (by decide))), e_s32, zU_at (Or.inl (zne (zr (k := 56) (t2 := 105) hG ha rfl) ha (by decide))), e_s31, zU_at (Or.inl (zne (zr (k := 56) (t2 := 105) hG ha rfl) ha (by decide))), (zFr_g hF_s30 ha (by decide))])
                          have f267 := zf hS_s29 ha (k := 38) rfl
                          have g268 : zc (s37 (gP G a 27)) = zc (s30 (gP G a 27)) := by rw [e_s37, zU_ne (zne (zr (k := 56) (t2 := 105) hG ha rfl) (zr (k := 27) (t2 := 84) hG ha rfl) (by decide)), e_s35, zU_ne (zne (zr (k := 56) (t2 := 105) hG ha rfl) (zr (k := 27) (t2 := 84) hG ha rfl) (by decide)), e_s32, zU_ne (zne (zr (k := 56) (t2 := 105) hG ha rfl) (zr (k := 27) (t2 := 84) hG ha rfl) (by decide)), e_s31, zU_ne (zne (zr (k := 56) (t2 := 105) hG ha rfl) (zr (k := 27) (t2 := 84) hG ha rfl) (by decide))]
                          have g269 : s37 (gP G a 27) 488 = s30 (gP G a 27) 488 := (by rw [e_s37, zU_at (Or.inl (zne (zr (k := 56) (t2 := 105) hG ha rfl) (zr (k := 27) (t2 := 84) hG ha rfl) (by decide))), e_s35, zU_at (Or.inl (zne (zr (k := 56) (t2 := 105) hG ha rfl) (zr (k := 27) (t2 := 84) hG ha rfl) (by decide))), e_s32, zU_at (Or.inl (zne (zr (k := 56) (t2 := 105) hG ha rfl) (zr (k := 27) (t2 := 84) hG ha rfl) (by decide))), e_s31, zU_at (Or.inl (zne (zr (k := 56) (t2 := 105) hG ha rfl) (zr (k := 27) (t2 := 84) hG ha rfl) (by decide)))])
                          exact j_sub [1, 2, 3, 4, 0] [(0, .ref a), (1, .int (zI x1)), (2, .int (zI x2)), (3, .int (zI x3)), (4, .int (zI (v92 + 1)))] rfl (ih_c71_11 (v92 + 1) s37 (by omega) (by omega) hS_s37 (zFr_u (zFr_u (zFr_u (zFr_u (zFr_t (zFr_t (zFr_t (zFr_t zFr_rf hF_s12 (by decide)) hF_s28 (by decide)) hF_s29 (by decide)) hF_s30 (by decide)) e_s31 (zr (k := 56) (t2 := 105) hG ha rfl) (by decide)) e_s32 (zr (k := 56) (t2 := 105) hG ha rfl) (by decide)) e_s35 (zr (k := 56) (t2 := 105) hG ha rfl) (by decide)) e_s37 (zr (k := 56) (t2 := 105) hG ha rfl) (by decide)) (by omega) (by omega) (by omega) (by omega) (by omega) (by omega) (by omega) (by omega) (by omega) (by omega) (by omega) (by omega))
                    · skip
                      refine j_aload_n hx 0 dX12_lot_148 rfl ?_
                      refine g13_52 hx hG ha kf_RX12_429 (v := (s29 a 52)) (by rw [e_s31, zU_at (Or.inl (zne (zr (k := 56) (t2 := 105) hG ha rfl) ha (by decide))), (zFr_g hF_s30 ha (by decide))]) dX12_lot_149 ?_
                      refine j_goto hx 161 dX12_lot_152 rfl ?_
                      refine j_iast hx hG (zr (k := 56) (t2 := 105) hG ha rfl) (by decide) rfl (zlen hG (zr (k := 56) (t2 := 105) hG ha rfl) (n := 6) rfl rfl) (by omega) (by omega) (j := 1) rfl dX12_lot_161 ?_
                      obtain ⟨s38, e_s38⟩ : ∃ z, z = zU s31 (gP G a 56) 1 ((s29 a 52)) := ⟨_, rfl⟩
                      rw [← e_s38]
                      have hS_s38 : zSK G s38 := by rw [e_s38]; exact zSK_A hS_s31 (zr (k := 56) (t2 := 105) hG ha rfl) rfl rfl rfl (by omega)
                      refine j_aload_n hx 0 dX12_lot_162 rfl ?_
                      have f270 := zf hS_s29 ha (k := 54) rfl
                      refine g13_54 hx hG ha kf_RX12_441 (v := (s29 a 54)) (by rw [e_s38, zU_at (Or.inl (zne (zr (k := 56) (t2 := 105) hG ha rfl) ha (by decide))), e_s31, zU_at (Or.inl (zne (zr (k := 56) (t2 := 105) hG ha rfl) ha (by decide))), (zFr_g hF_s30 ha (by decide))]) dX12_lot_163 ?_
                      refine j_iconst hx dX12_lot_166 ?_
                      refine j_icmp_eq hx 185 dX12_lot_167 rfl (by omega) ⟨by decide, by decide⟩ (fun h271 => ?_) (fun h271 => ?_)
                      · skip
                        refine j_aload_n hx 0 dX12_lot_185 rfl ?_
                        refine g13_56 hx hG ha kf_RX12_121 dX12_lot_186 ?_
                        refine j_iconst hx dX12_lot_189 ?_
                        refine j_dup2 hx dX12_lot_190 rfl rfl ?_
                        have f272 := zaI (j := 5) hS_s12 (zr (k := 56) (t2 := 105) hG ha rfl) rfl (zlen hG (zr (k := 56) (t2 := 105) hG ha rfl) (n := 6) rfl rfl) (show 0 ≤ 5 by omega) (by omega) rfl
                        refine j_iald hx hG (zr (k := 56) (t2 := 105) hG ha rfl) (by decide) rfl (zlen hG (zr (k := 56) (t2 := 105) hG ha rfl) (n := 6) rfl rfl) (by omega) (by omega) (j := 5) rfl (v := (s12 (gP G a 56) 5)) (by rw [e_s38, zU_at (Or.inr (by decide)), e_s31, zU_at (Or.inr (by decide)), (zFr_g hF_s30 (zr (k := 56) (t2 := 105) hG ha rfl) (by decide)), (zFr_g hF_s29 (zr (k := 56) (t2 := 105) hG ha rfl) (by decide)), (zFr_g hF_s28 (zr (k := 56) (t2 := 105) hG ha rfl) (by decide))]) dX12_lot_191 ?_
                        refine j_aload_n hx 0 dX12_lot_192 rfl ?_
                        have f273 := zf hS_s29 ha (k := 51) rfl
                        refine g13_51 hx hG ha kf_RX12_432 (v := (s29 a 51)) (by rw [e_s38, zU_at (Or.inl (zne (zr (k := 56) (t2 := 105) hG ha rfl) ha (by decide))), e_s31, zU_at (Or.inl (zne (zr (k := 56) (t2 := 105) hG ha rfl) ha (by decide))), (zFr_g hF_s30 ha (by decide))]) dX12_lot_193 ?_
                        refine j_iconst hx dX12_lot_196 ?_
                        refine j_icmp_ne hx 204 dX12_lot_197 rfl (by omega) ⟨by decide, by decide⟩ (fun h274 => ?_) (fun h274 => ?_)
                        · skip
                          refine j_iconst hx dX12_lot_204 ?_
                          refine j_iadd hx (r := (s12 (gP G a 56) 5) + 1) dX12_lot_205 (by omega) ?_
                          refine j_norm (fun v275 f276 f277 f278 => ?_)
                          refine j_iast hx hG (zr (k := 56) (t2 := 105) hG ha rfl) (by decide) rfl (zlen hG (zr (k := 56) (t2 := 105) hG ha rfl) (n := 6) rfl rfl) (by omega) (by omega) (j := 5) rfl dX12_lot_206 ?_
                          obtain ⟨s39, e_s39⟩ : ∃ z, z = zU s38 (gP G a 56) 5 v275 := ⟨_, rfl⟩
                          rw [← e_s39]
                          have hS_s39 : zSK G s39 := by rw [e_s39]; exact zSK_A hS_s38 (zr (k := 56) (t2 := 105) hG ha rfl) rfl rfl rfl (by omega)
                          refine j_iinc hx 4 [(4, .int (zI (v92 + 1))), (0, .ref a), (1, .int (zI x1)), (2, .int (zI x2)), (3, .int (zI x3))] dX12_lot_207 rfl (by omega) (by decide) rfl ?_
                          refine j_goto hx 71 dX12_lot_210 rfl ?_
                          have g279 : s39 a 0 = s29 a 0 := (by rw [e_s39, zU_at (Or.inl (zne (zr (k := 56) (t2 := 105) hG ha rfl) ha (by decide))), e_s38, zU_at (Or.inl (zne (zr (k := 56) (t2 := 105) hG ha rfl) ha (by decide))), e_s31, zU_at (Or.inl (zne (zr (k := 56) (t2 := 105) hG ha rfl) ha (by decide))), (zFr_g hF_s30 ha (by decide))])
                          have f280 := zf hS_s29 ha (k := 0) rfl
                          have g281 : s39 a 3 = s29 a 3 := (by rw [e_s39, zU_at (Or.inl (zne (zr (k := 56) (t2 := 105) hG ha rfl) ha (by decide))), e_s38, zU_at (Or.inl (zne (zr (k := 56) (t2 := 105) hG ha rfl) ha (by decide))), e_s31, zU_at (Or.inl (zne (zr (k := 56) (t2 := 105) hG ha rfl) ha (by decide))), (zFr_g hF_s30 ha (by decide))])
                          have f282 := zf hS_s29 ha (k := 3) rfl
                          have g283 : s39 a 4 = s29 a 4 := (by rw [e_s39, zU_at (Or.inl (zne (zr (k := 56) (t2 := 105) hG ha rfl) ha (by decide))), e_s38, zU_at (Or.inl (zne (zr (k := 56) (t2 := 105) hG ha rfl) ha (by decide))), e_s31, zU_at (Or.inl (zne (zr (k := 56) (t2 := 105) hG ha rfl) ha (by decide))), (zFr_g hF_s30 ha (by decide))])
                          have f284 := zf hS_s29 ha (k := 4) rfl
                          have g285 : s39 a 5 = s29 a 5 := (by rw [e_s39, zU_at (Or.inl (zne (zr (k := 56) (t2 := 105) hG ha rfl) ha (by decide))), e_s38, zU_at (Or.inl (zne (zr (k := 56) (t2 := 105) hG ha rfl) ha (by decide))), e_s31, zU_at (Or.inl (zne (zr (k := 56) (t2 := 105) hG ha rfl) ha (by decide))), (zFr_g hF_s30 ha (by decide))])
                          have f286 := zf hS_s29 ha (k := 5) rfl
                          have g287 : s39 a 7 = s29 a 7 := (by rw [e_s39, zU_at (Or.inl (zne (zr (k := 56) (t2 := 105) hG ha rfl) ha (by decide))), e_s38, zU_at (Or.inl (zne (zr (k := 56) (t2 := 105) hG ha rfl) ha (by decide))), e_s31, zU_at (Or.inl (zne (zr (k := 56) (t2 := 105) hG ha rfl) ha (by decide))), (zFr_g hF_s30 ha (by decide))])
                          have f288 := zf hS_s29 ha (k := 7) rfl
                          have g289 : s39 a 21 = s29 a 21 := (by rw [e_s39, zU_at (Or.inl (zne (zr (k := 56) (t2 := 105) hG ha rfl) ha (by decide))), e_s38, zU_at (Or.inl (zne (zr (k := 56) (t2 := 105) hG ha rfl) ha (by decide))), e_s31, zU_at (Or.inl (zne (zr (k := 56) (t2 := 105) hG ha rfl) ha (by decide))), (zFr_g hF_s30 ha (by decide))])
                          have f290 := zf hS_s29 ha (k := 21) rfl
                          have g291 : s39 a 22 = s29 a 22 := (by rw [e_s39, zU_at (Or.inl (zne (zr (k := 56) (t2 := 105) hG ha rfl) ha (by decide))), e_s38, zU_at (Or.inl (zne (zr (k := 56) (t2 := 105) hG ha rfl) ha (by decide))), e_s31, zU_at (Or.inl (zne (zr (k := 56) (t2 := 105) hG ha rfl) ha (by decide))), (zFr_g hF_s30 ha (by decide))])
                          have f292 := zf hS_s29 ha (k := 22) rfl
                          have g293 : s39 a 23 = s29 a 23 := (by rw [e_s39, zU_at (Or.inl (zne (zr (k := 56) (t2 := 105) hG ha rfl) ha (by decide))), e_s38, zU_at (Or.inl (zne (zr (k := 56) (t2 := 105) hG ha rfl) ha (by decide))), e_s31, zU_at (Or.inl (zne (zr (k := 56) (t2 := 105) hG ha rfl) ha (by decide))), (zFr_g hF_s30 ha (by decide))])
                          have f294 := zf hS_s29 ha (k := 23) rfl
                          have g295 : s39 a 24 = s29 a 24 := (by rw [e_s39, zU_at (Or.inl (zne (zr (k := 56) (t2 := 105) hG ha rfl) ha (by decide))), e_s38, zU_at (Or.inl (zne (zr (k := 56) (t2 := 105) hG ha rfl) ha (by decide))), e_s31, zU_at (Or.inl (zne (zr (k := 56) (t2 := 105) hG ha rfl) ha (by decide))), (zFr_g hF_s30 ha (by decide))])
                          have f296 := zf hS_s29 ha (k := 24) rfl
                          have g297 : s39 a 38 = s29 a 38 := (by rw [e_s39, zU_at (Or.inl (zne (zr (k := 56) (t2 := 105) hG ha rfl) ha (by decide))), e_s38, zU_at (Or.inl (zne (zr (k := 56) (t2 := 105) hG ha rfl) ha (by decide))), e_s31, zU_at (Or.inl (zne (zr (k := 56) (t2 := 105) hG ha rfl) ha (by decide))), (zFr_g hF_s30 ha (by decide))])
                          have f298 := zf hS_s29 ha (k := 38) rfl
                          have g299 : zc (s39 (gP G a 27)) = zc (s30 (gP G a 27)) := by rw [e_s39, zU_ne (zne (zr (k := 56) (t2 := 105) hG ha rfl) (zr (k := 27) (t2 := 84) hG ha rfl) (by decide)), e_s38, zU_ne (zne (zr (k := 56) (t2 := 105) hG ha rfl) (zr (k := 27) (t2 := 84) hG ha rfl) (by decide)), e_s31, zU_ne (zne (zr (k := 56) (t2 := 105) hG ha rfl) (zr (k := 27) (t2 := 84) hG ha rfl) (by decide))]
                          have g300 : s39 (gP G a 27) 488 = s30 (gP G a 27) 488 := (by rw [e_s39, zU_at (Or.inl (zne (zr (k := 56) (t2 := 105) hG ha rfl) (zr (k := 27) (t2 := 84) hG ha rfl) (by decide))), e_s38, zU_at (Or.inl (zne (zr (k := 56) (t2 := 105) hG ha rfl) (zr (k := 27) (t2 := 84) hG ha rfl) (by decide))), e_s31, zU_at (Or.inl (zne (zr (k := 56) (t2 := 105) hG ha rfl) (zr (k := 27) (t2 := 84) hG ha rfl) (by decide)))])
                          exact j_sub [1, 2, 3, 4, 0] [(0, .ref a), (1, .int (zI x1)), (2, .int (zI x2)), (3, .int (zI x3)), (4, .int (zI (v92 + 1)))] rfl (ih_c71_11 (v92 + 1) s39 (by omega) (by omega) hS_s39 (zFr_u (zFr_u (zFr_u (zFr_t (zFr_t (zFr_t (zFr_t zFr_rf hF_s12 (by decide)) hF_s28 (by decide)) hF_s29 (by decide)) hF_s30 (by decide)) e_s31 (zr (k := 56) (t2 := 105) hG ha rfl) (by decide)) e_s38 (zr (k := 56) (t2 := 105) hG ha rfl) (by decide)) e_s39 (zr (k := 56) (t2 := 105) hG ha rfl) (by decide)) (by omega) (by omega) (by omega) (by omega) (by omega) (by omega) (by omega) (by omega) (by omega) (by omega) (by omega) (by omega))
                        · skip
                          refine j_iconst hx dX12_lot_200 ?_
                          refine j_goto hx 205 dX12_lot_201 rfl ?_
                          refine j_iadd hx (r := (s12 (gP G a 56) 5)) dX12_lot_205 (by omega) ?_
                          refine j_iast hx hG (zr (k := 56) (t2 := 105) hG ha rfl) (by decide) rfl (zlen hG (zr (k := 56) (t2 := 105) hG ha rfl) (n := 6) rfl rfl) (by omega) (by omega) (j := 5) rfl dX12_lot_206 ?_
                          obtain ⟨s40, e_s40⟩ : ∃ z, z = zU s38 (gP G a 56) 5 ((s12 (gP G a 56) 5)) := ⟨_, rfl⟩
                          rw [← e_s40]
                          have hS_s40 : zSK G s40 := by rw [e_s40]; exact zSK_A hS_s38 (zr (k := 56) (t2 := 105) hG ha rfl) rfl rfl rfl (by omega)
                          refine j_iinc hx 4 [(4, .int (zI (v92 + 1))), (0, .ref a), (1, .int (zI x1)), (2, .int (zI x2)), (3, .int (zI x3))] dX12_lot_207 rfl (by omega) (by decide) rfl ?_
                          refine j_goto hx 71 dX12_lot_210 rfl ?_
                          have g301 : s40 a 0 = s29 a 0 := (by rw [e_s40, zU_at (Or.inl (zne (zr (k := 56) (t2 := 105) hG ha rfl) ha (by decide))), e_s38, zU_at (Or.inl (zne (zr (k := 56) (t2 := 105) hG ha rfl) ha (by decide))), e_s31, zU_at (Or.inl (zne (zr (k := 56) (t2 := 105) hG ha rfl) ha (by decide))), (zFr_g hF_s30 ha (by decide))])
                          have f302 := zf hS_s29 ha (k := 0) rfl
                          have g303 : s40 a 3 = s29 a 3 := (by rw [e_s40, zU_at (Or.inl (zne (zr (k := 56) (t2 := 105) hG ha rfl) ha (by decide))), e_s38, zU_at (Or.inl (zne (zr (k := 56) (t2 := 105) hG ha rfl) ha (by decide))), e_s31, zU_at (Or.inl (zne (zr (k := 56) (t2 := 105) hG ha rfl) ha (by decide))), (zFr_g hF_s30 ha (by decide))])
                          have f304 := zf hS_s29 ha (k := 3) rfl
                          have g305 : s40 a 4 = s29 a 4 := (by rw [e_s40, zU_at (Or.inl (zne (zr (k := 56) (t2 := 105) hG ha rfl) ha (by decide))), e_s38, zU_at (Or.inl (zne (zr (k := 56) (t2 := 105) hG ha rfl) ha (by decide))), e_s31, zU_at (Or.inl (zne (zr (k := 56) (t2 := 105) hG ha rfl) ha (by decide))), (zFr_g hF_s30 ha (by decide))])
                          have f306 := zf hS_s29 ha (k := 4) rfl
                          have g307 : s40 a 5 = s29 a 5 := (by rw [e_s40, zU_at (Or.inl (zne (zr (k := 56) (t2 := 105) hG ha rfl) ha (by decide))), e_s38, zU_at (Or.inl (zne (zr (k := 56) (t2 := 105) hG ha rfl) ha (by decide))), e_s31, zU_at (Or.inl (zne (zr (k := 56) (t2 := 105) hG ha rfl) ha (by decide))), (zFr_g hF_s30 ha (by decide))])
                          have f308 := zf hS_s29 ha (k := 5) rfl
                          have g309 : s40 a 7 = s29 a 7 := (by rw [e_s40, zU_at (Or.inl (zne (zr (k := 56) (t2 := 105) hG ha rfl) ha (by decide))), e_s38, zU_at (Or.inl (zne (zr (k := 56) (t2 := 105) hG ha rfl) ha (by decide))), e_s31, zU_at (Or.inl (zne (zr (k := 56) (t2 := 105) hG ha rfl) ha (by decide))), (zFr_g hF_s30 ha (by decide))])
                          have f310 := zf hS_s29 ha (k := 7) rfl
                          have g311 : s40 a 21 = s29 a 21 := (by rw [e_s40, zU_at (Or.inl (zne (zr (k := 56) (t2 := 105) hG ha rfl) ha (by decide))), e_s38, zU_at (Or.inl (zne (zr (k := 56) (t2 := 105) hG ha rfl) ha (by decide))), e_s31, zU_at (Or.inl (zne (zr (k := 56) (t2 := 105) hG ha rfl) ha (by decide))), (zFr_g hF_s30 ha (by decide))])
                          have f312 := zf hS_s29 ha (k := 21) rfl
                          have g313 : s40 a 22 = s29 a 22 := (by rw [e_s40, zU_at (Or.inl (zne (zr (k := 56) (t2 := 105) hG ha rfl) ha (by decide))), e_s38, zU_at (Or.inl (zne (zr (k := 56) (t2 := 105) hG ha rfl) ha (by decide))), e_s31, zU_at (Or.inl (zne (zr (k := 56) (t2 := 105) hG ha rfl) ha (by decide))), (zFr_g hF_s30 ha (by decide))])
                          have f314 := zf hS_s29 ha (k := 22) rfl
                          have g315 : s40 a 23 = s29 a 23 := (by rw [e_s40, zU_at (Or.inl (zne (zr (k := 56) (t2 := 105) hG ha rfl) ha (by decide))), e_s38, zU_at (Or.inl (zne (zr (k := 56) (t2 := 105) hG ha rfl) ha (by decide))), e_s31, zU_at (Or.inl (zne (zr (k := 56) (t2 := 105) hG ha rfl) ha (by decide))), (zFr_g hF_s30 ha (by decide))])
                          have f316 := zf hS_s29 ha (k := 23) rfl
                          have g317 : s40 a 24 = s29 a 24 := (by rw [e_s40, zU_at (Or.inl (zne (zr (k := 56) (t2 := 105) hG ha rfl) ha (by decide))), e_s38, zU_at (Or.inl (zne (zr (k := 56) (t2 := 105) hG ha rfl) ha (by decide))), e_s31, zU_at (Or.inl (zne (zr (k := 56) (t2 := 105) hG ha rfl) ha (by decide))), (zFr_g hF_s30 ha (by decide))])
                          have f318 := zf hS_s29 ha (k := 24) rfl
                          have g319 : s40 a 38 = s29 a 38 := (by rw [e_s40, zU_at (Or.inl (zne (zr (k := 56) (t2 := 105) hG ha rfl) ha (by decide))), e_s38, zU_at (Or.inl (zne (zr (k := 56) (t2 := 105) hG ha rfl) ha (by decide))), e_s31, zU_at (Or.inl (zne (zr (k := 56) (t2 := 105) hG ha rfl) ha (by decide))), (zFr_g hF_s30 ha (by decide))])
                          have f320 := zf hS_s29 ha (k := 38) rfl
                          have g321 : zc (s40 (gP G a 27)) = zc (s30 (gP G a 27)) := by rw [e_s40, zU_ne (zne (zr (k := 56) (t2 := 105) hG ha rfl) (zr (k := 27) (t2 := 84) hG ha rfl) (by decide)), e_s38, zU_ne (zne (zr (k := 56) (t2 := 105) hG ha rfl) (zr (k := 27) (t2 := 84) hG ha rfl) (by decide)), e_s31, zU_ne (zne (zr (k := 56) (t2 := 105) hG ha rfl) (zr (k := 27) (t2 := 84) hG ha rfl) (by decide))]
                          have g322 : s40 (gP G a 27) 488 = s30 (gP G a 27) 488 := (by rw [e_s40, zU_at (Or.inl (zne (zr (k := 56) (t2 := 105) hG ha rfl) (zr (k := 27) (t2 := 84) hG ha rfl) (by decide))), e_s38, zU_at (Or.inl (zne (zr (k := 56) (t2 := 105) hG ha rfl) (zr (k := 27) (t2 := 84) hG ha rfl) (by decide))), e_s31, zU_at (Or.inl (zne (zr (k := 56) (t2 := 105) hG ha rfl) (zr (k := 27) (t2 := 84) hG ha rfl) (by decide)))])
                          exact j_sub [1, 2, 3, 4, 0] [(0, .ref a), (1, .int (zI x1)), (2, .int (zI x2)), (3, .int (zI x3)), (4, .int (zI (v92 + 1)))] rfl (ih_c71_11 (v92 + 1) s40 (by omega) (by omega) hS_s40 (zFr_u (zFr_u (zFr_u (zFr_t (zFr_t (zFr_t (zFr_t zFr_rf hF_s12 (by decide)) hF_s28 (by decide)) hF_s29 (by decide)) hF_s30 (by decide)) e_s31 (zr (k := 56) (t2 := 105) hG ha rfl) (by decide)) e_s38 (zr (k := 56) (t2 := 105) hG ha rfl) (by decide)) e_s40 (zr (k := 56) (t2 := 105) hG ha rfl) (by decide)) (by omega) (by omega) (by omega) (by omega) (by omega) (by omega) (by omega) (by omega) (by omega) (by omega) (by omega) (by omega))
                      · skip
                        refine j_aload_n hx 0 dX12_lot_170 rfl ?_
                        refine g13_56 hx hG ha kf_RX12_121 dX12_lot_171 ?_
                        refine j_iconst hx dX12_lot_174 ?_
                        refine j_aload_n hx 0 dX12_lot_175 rfl ?_
                        refine g13_54 hx hG ha kf_RX12_441 (v := (s29 a 54)) (by rw [e_s38, zU_at (Or.inl (zne (zr (k := 56) (t2 := 105) hG ha rfl) ha (by decide))), e_s31, zU_at (Or.inl (zne (zr (k := 56) (t2 := 105) hG ha rfl) ha (by decide))), (zFr_g hF_s30 ha (by decide))]) dX12_lot_176 ?_
                        refine j_iadd hx (r := (s29 a 54) + 2) dX12_lot_179 (by omega) ?_
                        refine j_dup2 hx dX12_lot_180 rfl rfl ?_
                        have f323 := zaI (j := ((s29 a 54) + 2).toNat) hS_s12 (zr (k := 56) (t2 := 105) hG ha rfl) rfl (zlen hG (zr (k := 56) (t2 := 105) hG ha rfl) (n := 6) rfl rfl) (show 0 ≤ (s29 a 54) + 2 by omega) (by omega) rfl
                        refine j_iald hx hG (zr (k := 56) (t2 := 105) hG ha rfl) (by decide) rfl (zlen hG (zr (k := 56) (t2 := 105) hG ha rfl) (n := 6) rfl rfl) (by omega) (by omega) (j := ((s29 a 54) + 2).toNat) rfl (v := (s12 (gP G a 56) ((s29 a 54) + 2).toNat)) (by rw [e_s38, zU_at (Or.inr (by omega)), e_s31, zU_at (Or.inr (by omega)), (zFr_g hF_s30 (zr (k := 56) (t2 := 105) hG ha rfl) (by decide)), (zFr_g hF_s29 (zr (k := 56) (t2 := 105) hG ha rfl) (by decide)), (zFr_g hF_s28 (zr (k := 56) (t2 := 105) hG ha rfl) (by decide))]) dX12_lot_181 ?_
                        refine j_iconst hx dX12_lot_182 ?_
                        refine j_iadd hx (r := (s12 (gP G a 56) ((s29 a 54) + 2).toNat) + 1) dX12_lot_183 (by omega) ?_
                        refine j_norm (fun v324 f325 f326 f327 => ?_)
                        refine j_iast hx hG (zr (k := 56) (t2 := 105) hG ha rfl) (by decide) rfl (zlen hG (zr (k := 56) (t2 := 105) hG ha rfl) (n := 6) rfl rfl) (by omega) (by omega) (j := ((s29 a 54) + 2).toNat) rfl dX12_lot_184 ?_
                        obtain ⟨s41, e_s41⟩ : ∃ z, z = zU s38 (gP G a 56) ((s29 a 54) + 2).toNat v324 := ⟨_, rfl⟩
                        rw [← e_s41]
                        have hS_s41 : zSK G s41 := by rw [e_s41]; exact zSK_A hS_s38 (zr (k := 56) (t2 := 105) hG ha rfl) rfl rfl rfl (by omega)
                        refine j_aload_n hx 0 dX12_lot_185 rfl ?_
                        refine g13_56 hx hG ha kf_RX12_121 dX12_lot_186 ?_
                        refine j_iconst hx dX12_lot_189 ?_
                        refine j_dup2 hx dX12_lot_190 rfl rfl ?_
                        have f328 := zaI (j := 5) hS_s12 (zr (k := 56) (t2 := 105) hG ha rfl) rfl (zlen hG (zr (k := 56) (t2 := 105) hG ha rfl) (n := 6) rfl rfl) (show 0 ≤ 5 by omega) (by omega) rfl
                        refine j_iald hx hG (zr (k := 56) (t2 := 105) hG ha rfl) (by decide) rfl (zlen hG (zr (k := 56) (t2 := 105) hG ha rfl) (n := 6) rfl rfl) (by omega) (by omega) (j := 5) rfl (v := (s12 (gP G a 56) 5)) (by rw [e_s41, zU_at (Or.inr (by omega)), e_s38, zU_at (Or.inr (by decide)), e_s31, zU_at (Or.inr (by decide)), (zFr_g hF_s30 (zr (k := 56) (t2 := 105) hG ha rfl) (by decide)), (zFr_g hF_s29 (zr (k := 56) (t2 := 105) hG ha rfl) (by decide)), (zFr_g hF_s28 (zr (k := 56) (t2 := 105) hG ha rfl) (by decide))]) dX12_lot_191 ?_
                        refine j_aload_n hx 0 dX12_lot_192 rfl ?_
                        have f329 := zf hS_s29 ha (k := 51) rfl
                        refine g13_51 hx hG ha kf_RX12_432 (v := (s29 a 51)) (by rw [e_s41, zU_at (Or.inl (zne (zr (k := 56) (t2 := 105) hG ha rfl) ha (by decide))), e_s38, zU_at (Or.inl (zne (zr (k := 56) (t2 := 105) hG ha rfl) ha (by decide))), e_s31, zU_at (Or.inl (zne (zr (k := 56) (t2 := 105) hG ha rfl) ha (by decide))), (zFr_g hF_s30 ha (by decide))]) dX12_lot_193 ?_
                        refine j_iconst hx dX12_lot_196 ?_
                        refine j_icmp_ne hx 204 dX12_lot_197 rfl (by omega) ⟨by decide, by decide⟩ (fun h330 => ?_) (fun h330 => ?_)
                        · skip
                          refine j_iconst hx dX12_lot_204 ?_
                          refine j_iadd hx (r := (s12 (gP G a 56) 5) + 1) dX12_lot_205 (by omega) ?_
                          refine j_norm (fun v331 f332 f333 f334 => ?_)
                          refine j_iast hx hG (zr (k := 56) (t2 := 105) hG ha rfl) (by decide) rfl (zlen hG (zr (k := 56) (t2 := 105) hG ha rfl) (n := 6) rfl rfl) (by omega) (by omega) (j := 5) rfl dX12_lot_206 ?_
                          obtain ⟨s42, e_s42⟩ : ∃ z, z = zU s41 (gP G a 56) 5 v331 := ⟨_, rfl⟩
                          rw [← e_s42]
                          have hS_s42 : zSK G s42 := by rw [e_s42]; exact zSK_A hS_s41 (zr (k := 56) (t2 := 105) hG ha rfl) rfl rfl rfl (by omega)
                          refine j_iinc hx 4 [(4, .int (zI (v92 + 1))), (0, .ref a), (1, .int (zI x1)), (2, .int (zI x2)), (3, .int (zI x3))] dX12_lot_207 rfl (by omega) (by decide) rfl ?_
                          refine j_goto hx 71 dX12_lot_210 rfl ?_
                          have g335 : s42 a 0 = s29 a 0 := (by rw [e_s42, zU_at (Or.inl (zne (zr (k := 56) (t2 := 105) hG ha rfl) ha (by decide))), e_s41, zU_at (Or.inl (zne (zr (k := 56) (t2 := 105) hG ha rfl) ha (by decide))), e_s38, zU_at (Or.inl (zne (zr (k := 56) (t2 := 105) hG ha rfl) ha (by decide))), e_s31, zU_at (Or.inl (zne (zr (k := 56) (t2 := 105) hG ha rfl) ha (by decide))), (zFr_g hF_s30 ha (by decide))])
                          have f336 := zf hS_s29 ha (k := 0) rfl
                          have g337 : s42 a 3 = s29 a 3 := (by rw [e_s42, zU_at (Or.inl (zne (zr (k := 56) (t2 := 105) hG ha rfl) ha (by decide))), e_s41, zU_at (Or.inl (zne (zr (k := 56) (t2 := 105) hG ha rfl) ha (by decide))), e_s38, zU_at (Or.inl (zne (zr (k := 56) (t2 := 105) hG ha rfl) ha (by decide))), e_s31, zU_at (Or.inl (zne (zr (k := 56) (t2 := 105) hG ha rfl) ha (by decide))), (zFr_g hF_s30 ha (by decide))])
                          have f338 := zf hS_s29 ha (k := 3) rfl
                          have g339 : s42 a 4 = s29 a 4 := (by rw [e_s42, zU_at (Or.inl (zne (zr (k := 56) (t2 := 105) hG ha rfl) ha (by decide))), e_s41, zU_at (Or.inl (zne (zr (k := 56) (t2 := 105) hG ha rfl) ha (by decide))), e_s38, zU_at (Or.inl (zne (zr (k := 56) (t2 := 105) hG ha rfl) ha (by decide))), e_s31, zU_at (Or.inl (zne (zr (k := 56) (t2 := 105) hG ha rfl) ha (by decide))), (zFr_g hF_s30 ha (by decide))])
                          have f340 := zf hS_s29 ha (k := 4) rfl
                          have g341 : s42 a 5 = s29 a 5 := (by rw [e_s42, zU_at (Or.inl (zne (zr (k := 56) (t2 := 105) hG ha rfl) ha (by decide))), e_s41, zU_at (Or.inl (zne (zr (k := 56) (t2 := 105) hG ha rfl) ha (by decide))), e_s38, zU_at (Or.inl (zne (zr (k := 56) (t2 := 105) hG ha rfl) ha (by decide))), e_s31, zU_at (Or.inl (zne (zr (k := 56) (t2 := 105) hG ha rfl) ha (by decide))), (zFr_g hF_s30 ha (by decide))])
                          have f342 := zf hS_s29 ha (k := 5) rfl
                          have g343 : s42 a 7 = s29 a 7 := (by rw [e_s42, zU_at (Or.inl (zne (zr (k := 56) (t2 := 105) hG ha rfl) ha (by decide))), e_s41, zU_at (Or.inl (zne (zr (k := 56) (t2 := 105) hG ha rfl) ha (by decide))), e_s38, zU_at (Or.inl (zne (zr (k := 56) (t2 := 105) hG ha rfl) ha (by decide))), e_s31, zU_at (Or.inl (zne (zr (k := 56) (t2 := 105) hG ha rfl) ha (by decide))), (zFr_g hF_s30 ha (by decide))])
                          have f344 := zf hS_s29 ha (k := 7) rfl
                          have g345 : s42 a 21 = s29 a 21 := (by rw [e_s42, zU_at (Or.inl (zne (zr (k := 56) (t2 := 105) hG ha rfl) ha (by decide))), e_s41, zU_at (Or.inl (zne (zr (k := 56) (t2 := 105) hG ha rfl) ha (by decide))), e_s38, zU_at (Or.inl (zne (zr (k := 56) (t2 := 105) hG ha rfl) ha (by decide))), e_s31, zU_at (Or.inl (zne (zr (k := 56) (t2 := 105) hG ha rfl) ha (by decide))), (zFr_g hF_s30 ha (by decide))])
                          have f346 := zf hS_s29 ha (k := 21) rfl
                          have g347 : s42 a 22 = s29 a 22 := (by rw [e_s42, zU_at (Or.inl (zne (zr (k := 56) (t2 := 105) hG ha rfl) ha (by decide))), e_s41, zU_at (Or.inl (zne (zr (k := 56) (t2 := 105) hG ha rfl) ha (by decide))), e_s38, zU_at (Or.inl (zne (zr (k := 56) (t2 := 105) hG ha rfl) ha (by decide))), e_s31, zU_at (Or.inl (zne (zr (k := 56) (t2 := 105) hG ha rfl) ha (by decide))), (zFr_g hF_s30 ha (by decide))])
                          have f348 := zf hS_s29 ha (k := 22) rfl
                          have g349 : s42 a 23 = s29 a 23 := (by rw [e_s42, zU_at (Or.inl (zne (zr (k := 56) (t2 := 105) hG ha rfl) ha (by decide))), e_s41, zU_at (Or.inl (zne (zr (k := 56) (t2 := 105) hG ha rfl) ha (by decide))), e_s38, zU_at (Or.inl (zne (zr (k := 56) (t2 := 105) hG ha rfl) ha (by decide))), e_s31, zU_at (Or.inl (zne (zr (k := 56) (t2 := 105) hG ha rfl) ha (by decide))), (zFr_g hF_s30 ha (by decide))])
                          have f350 := zf hS_s29 ha (k := 23) rfl
                          have g351 : s42 a 24 = s29 a 24 := (by rw [e_s42, zU_at (Or.inl (zne (zr (k := 56) (t2 := 105) hG ha rfl) ha (by decide))), e_s41, zU_at (Or.inl (zne (zr (k := 56) (t2 := 105) hG ha rfl) ha (by decide))), e_s38, zU_at (Or.inl (zne (zr (k := 56) (t2 := 105) hG ha rfl) ha (by decide))), e_s31, zU_at (Or.inl (zne (zr (k := 56) (t2 := 105) hG ha rfl) ha (by decide))), (zFr_g hF_s30 ha (by decide))])
                          have f352 := zf hS_s29 ha (k := 24) rfl
                          have g353 : s42 a 38 = s29 a 38 := (by rw [e_s42, zU_at (Or.inl (zne (zr (k := 56) (t2 := 105) hG ha rfl) ha (by decide))), e_s41, zU_at (Or.inl (zne (zr (k := 56) (t2 := 105) hG ha rfl) ha (by decide))), e_s38, zU_at (Or.inl (zne (zr (k := 56) (t2 := 105) hG ha rfl) ha (by decide))), e_s31, zU_at (Or.inl (zne (zr (k := 56) (t2 := 105) hG ha rfl) ha (by decide))), (zFr_g hF_s30 ha (by decide))])
                          have f354 := zf hS_s29 ha (k := 38) rfl
                          have g355 : zc (s42 (gP G a 27)) = zc (s30 (gP G a 27)) := by rw [e_s42, zU_ne (zne (zr (k := 56) (t2 := 105) hG ha rfl) (zr (k := 27) (t2 := 84) hG ha rfl) (by decide)), e_s41, zU_ne (zne (zr (k := 56) (t2 := 105) hG ha rfl) (zr (k := 27) (t2 := 84) hG ha rfl) (by decide)), e_s38, zU_ne (zne (zr (k := 56) (t2 := 105) hG ha rfl) (zr (k := 27) (t2 := 84) hG ha rfl) (by decide)), e_s31, zU_ne (zne (zr (k := 56) (t2 := 105) hG ha rfl) (zr (k := 27) (t2 := 84) hG ha rfl) (by decide))]
                          have g356 : s42 (gP G a 27) 488 = s30 (gP G a 27) 488 := (by rw [e_s42, zU_at (Or.inl (zne (zr (k := 56) (t2 := 105) hG ha rfl) (zr (k := 27) (t2 := 84) hG ha rfl) (by decide))), e_s41, zU_at (Or.inl (zne (zr (k := 56) (t2 := 105) hG ha rfl) (zr (k := 27) (t2 := 84) hG ha rfl) (by decide))), e_s38, zU_at (Or.inl (zne (zr (k := 56) (t2 := 105) hG ha rfl) (zr (k := 27) (t2 := 84) hG ha rfl) (by decide))), e_s31, zU_at (Or.inl (zne (zr (k := 56) (t2 := 105) hG ha rfl) (zr (k := 27) (t2 := 84) hG ha rfl) (by decide)))])
                          exact j_sub [1, 2, 3, 4, 0] [(0, .ref a), (1, .int (zI x1)), (2, .int (zI x2)), (3, .int (zI x3)), (4, .int (zI (v92 + 1)))] rfl (ih_c71_11 (v92 + 1) s42 (by omega) (by omega) hS_s42 (zFr_u (zFr_u (zFr_u (zFr_u (zFr_t (zFr_t (zFr_t (zFr_t zFr_rf hF_s12 (by decide)) hF_s28 (by decide)) hF_s29 (by decide)) hF_s30 (by decide)) e_s31 (zr (k := 56) (t2 := 105) hG ha rfl) (by decide)) e_s38 (zr (k := 56) (t2 := 105) hG ha rfl) (by decide)) e_s41 (zr (k := 56) (t2 := 105) hG ha rfl) (by decide)) e_s42 (zr (k := 56) (t2 := 105) hG ha rfl) (by decide)) (by omega) (by omega) (by omega) (by omega) (by omega) (by omega) (by omega) (by omega) (by omega) (by omega) (by omega) (by omega))
                        · skip
                          refine j_iconst hx dX12_lot_200 ?_
                          refine j_goto hx 205 dX12_lot_201 rfl ?_
                          refine j_iadd hx (r := (s12 (gP G a 56) 5)) dX12_lot_205 (by omega) ?_
                          refine j_iast hx hG (zr (k := 56) (t2 := 105) hG ha rfl) (by decide) rfl (zlen hG (zr (k := 56) (t2 := 105) hG ha rfl) (n := 6) rfl rfl) (by omega) (by omega) (j := 5) rfl dX12_lot_206 ?_
                          obtain ⟨s43, e_s43⟩ : ∃ z, z = zU s41 (gP G a 56) 5 ((s12 (gP G a 56) 5)) := ⟨_, rfl⟩
                          rw [← e_s43]
                          have hS_s43 : zSK G s43 := by rw [e_s43]; exact zSK_A hS_s41 (zr (k := 56) (t2 := 105) hG ha rfl) rfl rfl rfl (by omega)
                          refine j_iinc hx 4 [(4, .int (zI (v92 + 1))), (0, .ref a), (1, .int (zI x1)), (2, .int (zI x2)), (3, .int (zI x3))] dX12_lot_207 rfl (by omega) (by decide) rfl ?_
                          refine j_goto hx 71 dX12_lot_210 rfl ?_
                          have g357 : s43 a 0 = s29 a 0 := (by rw [e_s43, zU_at (Or.inl (zne (zr (k := 56) (t2 := 105) hG ha rfl) ha (by decide))), e_s41, zU_at (Or.inl (zne (zr (k := 56) (t2 := 105) hG ha rfl) ha (by decide))), e_s38, zU_at (Or.inl (zne (zr (k := 56) (t2 := 105) hG ha rfl) ha (by decide))), e_s31, zU_at (Or.inl (zne (zr (k := 56) (t2 := 105) hG ha rfl) ha (by decide))), (zFr_g hF_s30 ha (by decide))])
                          have f358 := zf hS_s29 ha (k := 0) rfl
                          have g359 : s43 a 3 = s29 a 3 := (by rw [e_s43, zU_at (Or.inl (zne (zr (k := 56) (t2 := 105) hG ha rfl) ha (by decide))), e_s41, zU_at (Or.inl (zne (zr (k := 56) (t2 := 105) hG ha rfl) ha (by decide))), e_s38, zU_at (Or.inl (zne (zr (k := 56) (t2 := 105) hG ha rfl) ha (by decide))), e_s31, zU_at (Or.inl (zne (zr (k := 56) (t2 := 105) hG ha rfl) ha (by decide))), (zFr_g hF_s30 ha (by decide))])
                          have f360 := zf hS_s29 ha (k := 3) rfl
                          have g361 : s43 a 4 = s29 a 4 := (by rw [e_s43, zU_at (Or.inl (zne (zr (k := 56) (t2 := 105) hG ha rfl) ha (by decide))), e_s41, zU_at (Or.inl (zne (zr (k := 56) (t2 := 105) hG ha rfl) ha (by decide))), e_s38, zU_at (Or.inl (zne (zr (k := 56) (t2 := 105) hG ha rfl) ha (by decide))), e_s31, zU_at (Or.inl (zne (zr (k := 56) (t2 := 105) hG ha rfl) ha (by decide))), (zFr_g hF_s30 ha (by decide))])
                          have f362 := zf hS_s29 ha (k := 4) rfl
                          have g363 : s43 a 5 = s29 a 5 := (by rw [e_s43, zU_at (Or.inl (zne (zr (k := 56) (t2 := 105) hG ha rfl) ha (by decide))), e_s41, zU_at (Or.inl (zne (zr (k := 56) (t2 := 105) hG ha rfl) ha (by decide))), e_s38, zU_at (Or.inl (zne (zr (k := 56) (t2 := 105) hG ha rfl) ha (by decide))), e_s31, zU_at (Or.inl (zne (zr (k := 56) (t2 := 105) hG ha rfl) ha (by decide))), (zFr_g hF_s30 ha (by decide))])
                          have f364 := zf hS_s29 ha (k := 5) rfl
                          have g365 : s43 a 7 = s29 a 7 := (by rw [e_s43, zU_at (Or.inl (zne (zr (k := 56) (t2 := 105) hG ha rfl) ha (by decide))), e_s41, zU_at (Or.inl (zne (zr (k := 56) (t2 := 105) hG ha rfl) ha (by decide))), e_s38, zU_at (Or.inl (zne (zr (k := 56) (t2 := 105) hG ha rfl) ha (by decide))), e_s31, zU_at (Or.inl (zne (zr (k := 56) (t2 := 105) hG ha rfl) ha (by decide))), (zFr_g hF_s30 ha (by decide))])
                          have f366 := zf hS_s29 ha (k := 7) rfl
                          have g367 : s43 a 21 = s29 a 21 := (by rw [e_s43, zU_at (Or.inl (zne (zr (k := 56) (t2 := 105) hG ha rfl) ha (by decide))), e_s41, zU_at (Or.inl (zne (zr (k := 56) (t2 := 105) hG ha rfl) ha (by decide))), e_s38, zU_at (Or.inl (zne (zr (k := 56) (t2 := 105) hG ha rfl) ha (by decide))), e_s31, zU_at (Or.inl (zne (zr (k := 56) (t2 := 105) hG ha rfl) ha (by decide))), (zFr_g hF_s30 ha (by decide))])
                          have f368 := zf hS_s29 ha (k := 21) rfl
                          have g369 : s43 a 22 = s29 a 22 := (by rw [e_s43, zU_at (Or.inl (zne (zr (k := 56) (t2 := 105) hG ha rfl) ha (by decide))), e_s41, zU_at (Or.inl (zne (zr (k := 56) (t2 := 105) hG ha rfl) ha (by decide))), e_s38, zU_at (Or.inl (zne (zr (k := 56) (t2 := 105) hG ha rfl) ha (by decide))), e_s31, zU_at (Or.inl (zne (zr (k := 56) (t2 := 105) hG ha rfl) ha (by decide))), (zFr_g hF_s30 ha (by decide))])
                          have f370 := zf hS_s29 ha (k := 22) rfl
                          have g371 : s43 a 23 = s29 a 23 := (by rw [e_s43, zU_at (Or.inl (zne (zr (k := 56) (t2 := 105) hG ha rfl) ha (by decide))), e_s41, zU_at (Or.inl (zne (zr (k := 56) (t2 := 105) hG ha rfl) ha (by decide))), e_s38, zU_at (Or.inl (zne (zr (k := 56) (t2 := 105) hG ha rfl) ha (by decide))), e_s31, zU_at (Or.inl (zne (zr (k := 56) (t2 := 105) hG ha rfl) ha (by decide))), (zFr_g hF_s30 ha (by decide))])
                          have f372 := zf hS_s29 ha (k := 23) rfl
                          have g373 : s43 a 24 = s29 a 24 := (by rw [e_s43, zU_at (Or.inl (zne (zr (k := 56) (t2 := 105) hG ha rfl) ha (by decide))), e_s41, zU_at (Or.inl (zne (zr (k := 56) (t2 := 105) hG ha rfl) ha (by decide))), e_s38, zU_at (Or.inl (zne (zr (k := 56) (t2 := 105) hG ha rfl) ha (by decide))), e_s31, zU_at (Or.inl (zne (zr (k := 56) (t2 := 105) hG ha rfl) ha (by decide))), (zFr_g hF_s30 ha (by decide))])
                          have f374 := zf hS_s29 ha (k := 24) rfl
                          have g375 : s43 a 38 = s29 a 38 := (by rw [e_s43, zU_at (Or.inl (zne (zr (k := 56) (t2 := 105) hG ha rfl) ha (by decide))), e_s41, zU_at (Or.inl (zne (zr (k := 56) (t2 := 105) hG ha rfl) ha (by decide))), e_s38, zU_at (Or.inl (zne (zr (k := 56) (t2 := 105) hG ha rfl) ha (by decide))), e_s31, zU_at (Or.inl (zne (zr (k := 56) (t2 := 105) hG ha rfl) ha (by decide))), (zFr_g hF_s30 ha (by decide))])
                          have f376 := zf hS_s29 ha (k := 38) rfl
                          have g377 : zc (s43 (gP G a 27)) = zc (s30 (gP G a 27)) := by rw [e_s43, zU_ne (zne (zr (k := 56) (t2 := 105) hG ha rfl) (zr (k := 27) (t2 := 84) hG ha rfl) (by decide)), e_s41, zU_ne (zne (zr (k := 56) (t2 := 105) hG ha rfl) (zr (k := 27) (t2 := 84) hG ha rfl) (by decide)), e_s38, zU_ne (zne (zr (k := 56) (t2 := 105) hG ha rfl) (zr (k := 27) (t2 := 84) hG ha rfl) (by decide)), e_s31, zU_ne (zne (zr (k := 56) (t2 := 105) hG ha rfl) (zr (k := 27) (t2 := 84) hG ha rfl) (by decide))]
                          have g378 : s43 (gP G a 27) 488 = s30 (gP G a 27) 488 := (by rw [e_s43, zU_at (Or.inl (zne (zr (k := 56) (t2 := 105) hG ha rfl) (zr (k := 27) (t2 := 84) hG ha rfl) (by decide))), e_s41, zU_at (Or.inl (zne (zr (k := 56) (t2 := 105) hG ha rfl) (zr (k := 27) (t2 := 84) hG ha rfl) (by decide))), e_s38, zU_at (Or.inl (zne (zr (k := 56) (t2 := 105) hG ha rfl) (zr (k := 27) (t2 := 84) hG ha rfl) (by decide))), e_s31, zU_at (Or.inl (zne (zr (k := 56) (t2 := 105) hG ha rfl) (zr (k := 27) (t2 := 84) hG ha rfl) (by decide)))])
                          exact j_sub [1, 2, 3, 4, 0] [(0, .ref a), (1, .int (zI x1)), (2, .int (zI x2)), (3, .int (zI x3)), (4, .int (zI (v92 + 1)))] rfl (ih_c71_11 (v92 + 1) s43 (by omega) (by omega) hS_s43 (zFr_u (zFr_u (zFr_u (zFr_u (zFr_t (zFr_t (zFr_t (zFr_t zFr_rf hF_s12 (by decide)) hF_s28 (by decide)) hF_s29 (by decide)) hF_s30 (by decide)) e_s31 (zr (k := 56) (t2 := 105) hG ha rfl) (by decide)) e_s38 (zr (k := 56) (t2 := 105) hG ha rfl) (by decide)) e_s41 (zr (k := 56) (t2 := 105) hG ha rfl) (by decide)) e_s43 (zr (k := 56) (t2 := 105) hG ha rfl) (by decide)) (by omega) (by omega) (by omega) (by omega) (by omega) (by omega) (by omega) (by omega) (by omega) (by omega) (by omega) (by omega))
                  · skip
                    refine j_aload_n hx 0 dX12_lot_103 rfl ?_
                    have f379 := zf hS_s29 ha (k := 52) rfl
                    refine g13_52 hx hG ha kf_RX12_429 (v := (s29 a 52)) (by rw [(zFr_g hF_s30 ha (by decide))]) dX12_lot_104 ?_
                    refine j_aload_n hx 0 dX12_lot_107 rfl ?_
                    refine g13_56 hx hG ha kf_RX12_121 dX12_lot_108 ?_
                    refine j_iconst hx dX12_lot_111 ?_
                    have f380 := zaI (j := 0) hS_s12 (zr (k := 56) (t2 := 105) hG ha rfl) rfl (zlen hG (zr (k := 56) (t2 := 105) hG ha rfl) (n := 6) rfl rfl) (show 0 ≤ 0 by omega) (by omega) rfl
                    refine j_iald hx hG (zr (k := 56) (t2 := 105) hG ha rfl) (by decide) rfl (zlen hG (zr (k := 56) (t2 := 105) hG ha rfl) (n := 6) rfl rfl) (by omega) (by omega) (j := 0) rfl (v := (s12 (gP G a 56) 0)) (by rw [(zFr_g hF_s30 (zr (k := 56) (t2 := 105) hG ha rfl) (by decide)), (zFr_g hF_s29 (zr (k := 56) (t2 := 105) hG ha rfl) (by decide)), (zFr_g hF_s28 (zr (k := 56) (t2 := 105) hG ha rfl) (by decide))]) dX12_lot_112 ?_
                    refine j_icmp_ge hx 123 dX12_lot_113 rfl (by omega) (by omega) (fun h381 => ?_) (fun h381 => ?_)
                    · skip
                      refine j_aload_n hx 0 dX12_lot_123 rfl ?_
                      refine g13_56 hx hG ha kf_RX12_121 dX12_lot_124 ?_
                      refine j_iconst hx dX12_lot_127 ?_
                      refine j_iald hx hG (zr (k := 56) (t2 := 105) hG ha rfl) (by decide) rfl (zlen hG (zr (k := 56) (t2 := 105) hG ha rfl) (n := 6) rfl rfl) (by omega) (by omega) (j := 0) rfl (v := (s12 (gP G a 56) 0)) (by rw [(zFr_g hF_s30 (zr (k := 56) (t2 := 105) hG ha rfl) (by decide)), (zFr_g hF_s29 (zr (k := 56) (t2 := 105) hG ha rfl) (by decide)), (zFr_g hF_s28 (zr (k := 56) (t2 := 105) hG ha rfl) (by decide))]) dX12_lot_128 ?_
                      refine j_iast hx hG (zr (k := 56) (t2 := 105) hG ha rfl) (by decide) rfl (zlen hG (zr (k := 56) (t2 := 105) hG ha rfl) (n := 6) rfl rfl) (by omega) (by omega) (j := 0) rfl dX12_lot_129 ?_
                      obtain ⟨s44, e_s44⟩ : ∃ z, z = zU s30 (gP G a 56) 0 ((s12 (gP G a 56) 0)) := ⟨_, rfl⟩
                      rw [← e_s44]
                      have hS_s44 : zSK G s44 := by rw [e_s44]; exact zSK_A hS_s30 (zr (k := 56) (t2 := 105) hG ha rfl) rfl rfl rfl (by omega)
                      refine j_aload_n hx 0 dX12_lot_130 rfl ?_
                      refine g13_56 hx hG ha kf_RX12_121 dX12_lot_131 ?_
                      refine j_iconst hx dX12_lot_134 ?_
                      refine j_aload_n hx 0 dX12_lot_135 rfl ?_
                      refine g13_52 hx hG ha kf_RX12_429 (v := (s29 a 52)) (by rw [e_s44, zU_at (Or.inl (zne (zr (k := 56) (t2 := 105) hG ha rfl) ha (by decide))), (zFr_g hF_s30 ha (by decide))]) dX12_lot_136 ?_
                      refine j_aload_n hx 0 dX12_lot_139 rfl ?_
                      refine g13_56 hx hG ha kf_RX12_121 dX12_lot_140 ?_
                      refine j_iconst hx dX12_lot_143 ?_
                      have f382 := zaI (j := 1) hS_s12 (zr (k := 56) (t2 := 105) hG ha rfl) rfl (zlen hG (zr (k := 56) (t2 := 105) hG ha rfl) (n := 6) rfl rfl) (show 0 ≤ 1 by omega) (by omega) rfl
                      refine j_iald hx hG (zr (k := 56) (t2 := 105) hG ha rfl) (by decide) rfl (zlen hG (zr (k := 56) (t2 := 105) hG ha rfl) (n := 6) rfl rfl) (by omega) (by omega) (j := 1) rfl (v := (s12 (gP G a 56) 1)) (by rw [e_s44, zU_at (Or.inr (by decide)), (zFr_g hF_s30 (zr (k := 56) (t2 := 105) hG ha rfl) (by decide)), (zFr_g hF_s29 (zr (k := 56) (t2 := 105) hG ha rfl) (by decide)), (zFr_g hF_s28 (zr (k := 56) (t2 := 105) hG ha rfl) (by decide))]) dX12_lot_144 ?_
                      refine j_icmp_le hx 155 dX12_lot_145 rfl (by omega) (by omega) (fun h383 => ?_) (fun h383 => ?_)
                      · skip
                        refine j_aload_n hx 0 dX12_lot_155 rfl ?_
                        refine g13_56 hx hG ha kf_RX12_121 dX12_lot_156 ?_
                        refine j_iconst hx dX12_lot_159 ?_
                        refine j_iald hx hG (zr (k := 56) (t2 := 105) hG ha rfl) (by decide) rfl (zlen hG (zr (k := 56) (t2 := 105) hG ha rfl) (n := 6) rfl rfl) (by omega) (by omega) (j := 1) rfl (v := (s12 (gP G a 56) 1)) (by rw [e_s44, zU_at (Or.inr (by decide)), (zFr_g hF_s30 (zr (k := 56) (t2 := 105) hG ha rfl) (by decide)), (zFr_g hF_s29 (zr (k := 56) (t2 := 105) hG ha rfl) (by decide)), (zFr_g hF_s28 (zr (k := 56) (t2 := 105) hG ha rfl) (by decide))]) dX12_lot_160 ?_
                        refine j_iast hx hG (zr (k := 56) (t2 := 105) hG ha rfl) (by decide) rfl (zlen hG (zr (k := 56) (t2 := 105) hG ha rfl) (n := 6) rfl rfl) (by omega) (by omega) (j := 1) rfl dX12_lot_161 ?_
                        obtain ⟨s45, e_s45⟩ : ∃ z, z = zU s44 (gP G a 56) 1 ((s12 (gP G a 56) 1)) := ⟨_, rfl⟩
                        rw [← e_s45]
                        have hS_s45 : zSK G s45 := by rw [e_s45]; exact zSK_A hS_s44 (zr (k := 56) (t2 := 105) hG ha rfl) rfl rfl rfl (by omega)
                        refine j_aload_n hx 0 dX12_lot_162 rfl ?_
                        have f384 := zf hS_s29 ha (k := 54) rfl
                        refine g13_54 hx hG ha kf_RX12_441 (v := (s29 a 54)) (by rw [e_s45, zU_at (Or.inl (zne (zr (k := 56) (t2 := 105) hG ha rfl) ha (by decide))), e_s44, zU_at (Or.inl (zne (zr (k := 56) (t2 := 105) hG ha rfl) ha (by decide))), (zFr_g hF_s30 ha (by decide))]) dX12_lot_163 ?_
                        refine j_iconst hx dX12_lot_166 ?_
                        refine j_icmp_eq hx 185 dX12_lot_167 rfl (by omega) ⟨by decide, by decide⟩ (fun h385 => ?_) (fun h385 => ?_)
                        · skip
                          refine j_aload_n hx 0 dX12_lot_185 rfl ?_
                          refine g13_56 hx hG ha kf_RX12_121 dX12_lot_186 ?_
                          refine j_iconst hx dX12_lot_189 ?_
                          refine j_dup2 hx dX12_lot_190 rfl rfl ?_
                          have f386 := zaI (j := 5) hS_s12 (zr (k := 56) (t2 := 105) hG ha rfl) rfl (zlen hG (zr (k := 56) (t2 := 105) hG ha rfl) (n := 6) rfl rfl) (show 0 ≤ 5 by omega) (by omega) rfl
                          refine j_iald hx hG (zr (k := 56) (t2 := 105) hG ha rfl) (by decide) rfl (zlen hG (zr (k := 56) (t2 := 105) hG ha rfl) (n := 6) rfl rfl) (by omega) (by omega) (j := 5) rfl (v := (s12 (gP G a 56) 5)) (by rw [e_s45, zU_at (Or.inr (by decide)), e_s44, zU_at (Or.inr (by decide)), (zFr_g hF_s30 (zr (k := 56) (t2 := 105) hG ha rfl) (by decide)), (zFr_g hF_s29 (zr (k := 56) (t2 := 105) hG ha rfl) (by decide)), (zFr_g hF_s28 (zr (k := 56) (t2 := 105) hG ha rfl) (by decide))]) dX12_lot_191 ?_
                          refine j_aload_n hx 0 dX12_lot_192 rfl ?_
                          have f387 := zf hS_s29 ha (k := 51) rfl
                          refine g13_51 hx hG ha kf_RX12_432 (v := (s29 a 51)) (by rw [e_s45, zU_at (Or.inl (zne (zr (k := 56) (t2 := 105) hG ha rfl) ha (by decide))), e_s44, zU_at (Or.inl (zne (zr (k := 56) (t2 := 105) hG ha rfl) ha (by decide))), (zFr_g hF_s30 ha (by decide))]) dX12_lot_193 ?_
                          refine j_iconst hx dX12_lot_196 ?_
                          refine j_icmp_ne hx 204 dX12_lot_197 rfl (by omega) ⟨by decide, by decide⟩ (fun h388 => ?_) (fun h388 => ?_)
                          · skip
                            refine j_iconst hx dX12_lot_204 ?_
                            refine j_iadd hx (r := (s12 (gP G a 56) 5) + 1) dX12_lot_205 (by omega) ?_
                            refine j_norm (fun v389 f390 f391 f392 => ?_)
                            refine j_iast hx hG (zr (k := 56) (t2 := 105) hG ha rfl) (by decide) rfl (zlen hG (zr (k := 56) (t2 := 105) hG ha rfl) (n := 6) rfl rfl) (by omega) (by omega) (j := 5) rfl dX12_lot_206 ?_
                            obtain ⟨s46, e_s46⟩ : ∃ z, z = zU s45 (gP G a 56) 5 v389 := ⟨_, rfl⟩
                            rw [← e_s46]
                            have hS_s46 : zSK G s46 := by rw [e_s46]; exact zSK_A hS_s45 (zr (k := 56) (t2 := 105) hG ha rfl) rfl rfl rfl (by omega)
                            refine j_iinc hx 4 [(4, .int (zI (v92 + 1))), (0, .ref a), (1, .int (zI x1)), (2, .int (zI x2)), (3, .int (zI x3))] dX12_lot_207 rfl (by omega) (by decide) rfl ?_
                            refine j_goto hx 71 dX12_lot_210 rfl ?_
                            have g393 : s46 a 0 = s29 a 0 := (by rw [e_s46, zU_at (Or.inl (zne (zr (k := 56) (t2 := 105) hG ha rfl) ha (by decide))), e_s45, zU_at (Or.inl (zne (zr (k := 56) (t2 := 105) hG ha rfl) ha (by decide))), e_s44, zU_at (Or.inl (zne (zr (k := 56) (t2 := 105) hG ha rfl) ha (by decide))), (zFr_g hF_s30 ha (by decide))])
                            have f394 := zf hS_s29 ha (k := 0) rfl
                            have g395 : s46 a 3 = s29 a 3 := (by rw [e_s46, zU_at (Or.inl (zne (zr (k := 56) (t2 := 105) hG ha rfl) ha (by decide))), e_s45, zU_at (Or.inl (zne (zr (k := 56) (t2 := 105) hG ha rfl) ha (by decide))), e_s44, zU_at (Or.inl (zne (zr (k := 56) (t2 := 105) hG ha rfl) ha (by decide))), (zFr_g hF_s30 ha (by decide))])
                            have f396 := zf hS_s29 ha (k := 3) rfl
                            have g397 : s46 a 4 = s29 a 4 := (by rw [e_s46, zU_at (Or.inl (zne (zr (k := 56) (t2 := 105) hG ha rfl) ha (by decide))), e_s45, zU_at (Or.inl (zne (zr (k := 56) (t2 := 105) hG ha rfl) ha (by decide))), e_s44, zU_at (Or.inl (zne (zr (k := 56) (t2 := 105) hG ha rfl) ha (by decide))), (zFr_g hF_s30 ha (by decide))])
                            have f398 := zf hS_s29 ha (k := 4) rfl
                            have g399 : s46 a 5 = s29 a 5 := (by rw [e_s46, zU_at (Or.inl (zne (zr (k := 56) (t2 := 105) hG ha rfl) ha (by decide))), e_s45, zU_at (Or.inl (zne (zr (k := 56) (t2 := 105) hG ha rfl) ha (by decide))), e_s44, zU_at (Or.inl (zne (zr (k := 56) (t2 := 105) hG ha rfl) ha (by decide))), (zFr_g hF_s30 ha (by decide))])
                            have f400 := zf hS_s29 ha (k := 5) rfl
                            have g401 : s46 a 7 = s29 a 7 := (by rw [e_s46, zU_at (Or.inl (zne (zr (k := 56) (t2 := 105) hG ha rfl) ha (by decide))), e_s45, zU_at (Or.inl (zne (zr (k := 56) (t2 := 105) hG ha rfl) ha (by decide))), e_s44, zU_at (Or.inl (zne (zr (k := 56) (t2 := 105) hG ha rfl) ha (by decide))), (zFr_g hF_s30 ha (by decide))])
                            have f402 := zf hS_s29 ha (k := 7) rfl
                            have g403 : s46 a 21 = s29 a 21 := (by rw [e_s46, zU_at (Or.inl (zne (zr (k := 56) (t2 := 105) hG ha rfl) ha (by decide))), e_s45, zU_at (Or.inl (zne (zr (k := 56) (t2 := 105) hG ha rfl) ha (by decide))), e_s44, zU_at (Or.inl (zne (zr (k := 56) (t2 := 105) hG ha rfl) ha (by decide))), (zFr_g hF_s30 ha (by decide))])
                            have f404 := zf hS_s29 ha (k := 21) rfl
                            have g405 : s46 a 22 = s29 a 22 := (by rw [e_s46, zU_at (Or.inl (zne (zr (k := 56) (t2 := 105) hG ha rfl) ha (by decide))), e_s45, zU_at (Or.inl (zne (zr (k := 56) (t2 := 105) hG ha rfl) ha (by decide))), e_s44, zU_at (Or.inl (zne (zr (k := 56) (t2 := 105) hG ha rfl) ha (by decide))), (zFr_g hF_s30 ha (by decide))])
                            have f406 := zf hS_s29 ha (k := 22) rfl
                            have g407 : s46 a 23 = s29 a 23 := (by rw [e_s46, zU_at (Or.inl (zne (zr (k := 56) (t2 := 105) hG ha rfl) ha (by decide))), e_s45, zU_at (Or.inl (zne (zr (k := 56) (t2 := 105) hG ha rfl) ha (by decide))), e_s44, zU_at (Or.inl (zne (zr (k := 56) (t2 := 105) hG ha rfl) ha (by decide))), (zFr_g hF_s30 ha (by decide))])
                            have f408 := zf hS_s29 ha (k := 23) rfl
                            have g409 : s46 a 24 = s29 a 24 := (by rw [e_s46, zU_at (Or.inl (zne (zr (k := 56) (t2 := 105) hG ha rfl) ha (by decide))), e_s45, zU_at (Or.inl (zne (zr (k := 56) (t2 := 105) hG ha rfl) ha (by decide))), e_s44, zU_at (Or.inl (zne (zr (k := 56) (t2 := 105) hG ha rfl) ha (by decide))), (zFr_g hF_s30 ha (by decide))])
                            have f410 := zf hS_s29 ha (k := 24) rfl
                            have g411 : s46 a 38 = s29 a 38 := (by rw [e_s46, zU_at (Or.inl (zne (zr (k := 56) (t2 := 105) hG ha rfl) ha (by decide))), e_s45, zU_at (Or.inl (zne (zr (k := 56) (t2 := 105) hG ha rfl) ha (by decide))), e_s44, zU_at (Or.inl (zne (zr (k := 56) (t2 := 105) hG ha rfl) ha (by decide))), (zFr_g hF_s30 ha (by decide))])
                            have f412 := zf hS_s29 ha (k := 38) rfl
                            have g413 : zc (s46 (gP G a 27)) = zc (s30 (gP G a 27)) := by rw [e_s46, zU_ne (zne (zr (k := 56) (t2 := 105) hG ha rfl) (zr (k := 27) (t2 := 84) hG ha rfl) (by decide)), e_s45, zU_ne (zne (zr (k := 56) (t2 := 105) hG ha rfl) (zr (k := 27) (t2 := 84) hG ha rfl) (by decide)), e_s44, zU_ne (zne (zr (k := 56) (t2 := 105) hG ha rfl) (zr (k := 27) (t2 := 84) hG ha rfl) (by decide))]
                            have g414 : s46 (gP G a 27) 488 = s30 (gP G a 27) 488 := (by rw [e_s46, zU_at (Or.inl (zne (zr (k := 56) (t2 := 105) hG ha rfl) (zr (k := 27) (t2 := 84) hG ha rfl) (by decide))), e_s45, zU_at (Or.inl (zne (zr (k := 56) (t2 := 105) hG ha rfl) (zr (k := 27) (t2 := 84) hG ha rfl) (by decide))), e_s44, zU_at (Or.inl (zne (zr (k := 56) (t2 := 105) hG ha rfl) (zr (k := 27) (t2 := 84) hG ha rfl) (by decide)))])
                            exact j_sub [1, 2, 3, 4, 0] [(0, .ref a), (1, .int (zI x1)), (2, .int (zI x2)), (3, .int (zI x3)), (4, .int (zI (v92 + 1)))] rfl (ih_c71_11 (v92 + 1) s46 (by omega) (by omega) hS_s46 (zFr_u (zFr_u (zFr_u (zFr_t (zFr_t (zFr_t (zFr_t zFr_rf hF_s12 (by decide)) hF_s28 (by decide)) hF_s29 (by decide)) hF_s30 (by decide)) e_s44 (zr (k := 56) (t2 := 105) hG ha rfl) (by decide)) e_s45 (zr (k := 56) (t2 := 105) hG ha rfl) (by decide)) e_s46 (zr (k := 56) (t2 := 105) hG ha rfl) (by decide)) (by omega) (by omega) (by omega) (by omega) (by omega) (by omega) (by omega) (by omega) (by omega) (by omega) (by omega) (by omega))
                          · skip
                            refine j_iconst hx dX12_lot_200 ?_
                            refine j_goto hx 205 dX12_lot_201 rfl ?_
                            refine j_iadd hx (r := (s12 (gP G a 56) 5)) dX12_lot_205 (by omega) ?_
                            refine j_iast hx hG (zr (k := 56) (t2 := 105) hG ha rfl) (by decide) rfl (zlen hG (zr (k := 56) (t2 := 105) hG ha rfl) (n := 6) rfl rfl) (by omega) (by omega) (j := 5) rfl dX12_lot_206 ?_
                            obtain ⟨s47, e_s47⟩ : ∃ z, z = zU s45 (gP G a 56) 5 ((s12 (gP G a 56) 5)) := ⟨_, rfl⟩
                            rw [← e_s47]
                            have hS_s47 : zSK G s47 := by rw [e_s47]; exact zSK_A hS_s45 (zr (k := 56) (t2 := 105) hG ha rfl) rfl rfl rfl (by omega)
                            refine j_iinc hx 4 [(4, .int (zI (v92 + 1))), (0, .ref a), (1, .int (zI x1)), (2, .int (zI x2)), (3, .int (zI x3))] dX12_lot_207 rfl (by omega) (by decide) rfl ?_
                            refine j_goto hx 71 dX12_lot_210 rfl ?_
                            have g415 : s47 a 0 = s29 a 0 := (by rw [e_s47, zU_at (Or.inl (zne (zr (k := 56) (t2 := 105) hG ha rfl) ha (by decide))), e_s45, zU_at (Or.inl (zne (zr (k := 56) (t2 := 105) hG ha rfl) ha (by decide))), e_s44, zU_at (Or.inl (zne (zr (k := 56) (t2 := 105) hG ha rfl) ha (by decide))), (zFr_g hF_s30 ha (by decide))])
                            have f416 := zf hS_s29 ha (k := 0) rfl
                            have g417 : s47 a 3 = s29 a 3 := (by rw [e_s47, zU_at (Or.inl (zne (zr (k := 56) (t2 := 105) hG ha rfl) ha (by decide))), e_s45, zU_at (Or.inl (zne (zr (k := 56) (t2 := 105) hG ha rfl) ha (by decide))), e_s44, zU_at (Or.inl (zne (zr (k := 56) (t2 := 105) hG ha rfl) ha (by decide))), (zFr_g hF_s30 ha (by decide))])
                            have f418 := zf hS_s29 ha (k := 3) rfl
                            have g419 : s47 a 4 = s29 a 4 := (by rw [e_s47, zU_at (Or.inl (zne (zr (k := 56) (t2 := 105) hG ha rfl) ha (by decide))), e_s45, zU_at (Or.inl (zne (zr (k := 56) (t2 := 105) hG ha rfl) ha (by decide))), e_s44, zU_at (Or.inl (zne (zr (k := 56) (t2 := 105) hG ha rfl) ha (by decide))), (zFr_g hF_s30 ha (by decide))])
                            have f420 := zf hS_s29 ha (k := 4) rfl
                            have g421 : s47 a 5 = s29 a 5 := (by rw [e_s47, zU_at (Or.inl (zne (zr (k := 56) (t2 := 105) hG ha rfl) ha (by decide))), e_s45, zU_at (Or.inl (zne (zr (k := 56) (t2 := 105) hG ha rfl) ha (by decide))), e_s44, zU_at (Or.inl (zne (zr (k := 56) (t2 := 105) hG ha rfl) ha (by decide))), (zFr_g hF_s30 ha (by decide))])
                            have f422 := zf hS_s29 ha (k := 5) rfl
                            have g423 : s47 a 7 = s29 a 7 := (by rw [e_s47, zU_at (Or.inl (zne (zr (k := 56) (t2 := 105) hG ha rfl) ha (by decide))), e_s45, zU_at (Or.inl (zne (zr (k := 56) (t2 := 105) hG ha rfl) ha (by decide))), e_s44, zU_at (Or.inl (zne (zr (k := 56) (t2 := 105) hG ha rfl) ha (by decide))), (zFr_g hF_s30 ha (by decide))])
                            have f424 := zf hS_s29 ha (k := 7) rfl
                            have g425 : s47 a 21 = s29 a 21 := (by rw [e_s47, zU_at (Or.inl (zne (zr (k := 56) (t2 := 105) hG ha rfl) ha (by decide))), e_s45, zU_at (Or.inl (zne (zr (k := 56) (t2 := 105) hG ha rfl) ha (by decide))), e_s44, zU_at (Or.inl (zne (zr (k := 56) (t2 := 105) hG ha rfl) ha (by decide))), (zFr_g hF_s30 ha (by decide))])
                            have f426 := zf hS_s29 ha (k := 21) rfl
                            have g427 : s47 a 22 = s29 a 22 := (by rw [e_s47, zU_at (Or.inl (zne (zr (k := 56) (t2 := 105) hG ha rfl) ha (by decide))), e_s45, zU_at (Or.inl (zne (zr (k := 56) (t2 := 105) hG ha rfl) ha (by decide))), e_s44, zU_at (Or.inl (zne (zr (k := 56) (t2 := 105) hG ha rfl) ha (by decide))), (zFr_g hF_s30 ha (by decide))])
                            have f428 := zf hS_s29 ha (k := 22) rfl
                            have g429 : s47 a 23 = s29 a 23 := (by rw [e_s47, zU_at (Or.inl (zne (zr (k := 56) (t2 := 105) hG ha rfl) ha (by decide))), e_s45, zU_at (Or.inl (zne (zr (k := 56) (t2 := 105) hG ha rfl) ha (by decide))), e_s44, zU_at (Or.inl (zne (zr (k := 56) (t2 := 105) hG ha rfl) ha (by decide))), (zFr_g hF_s30 ha (by decide))])
                            have f430 := zf hS_s29 ha (k := 23) rfl
                            have g431 : s47 a 24 = s29 a 24 := (by rw [e_s47, zU_at (Or.inl (zne (zr (k := 56) (t2 := 105) hG ha rfl) ha (by decide))), e_s45, zU_at (Or.inl (zne (zr (k := 56) (t2 := 105) hG ha rfl) ha (by decide))), e_s44, zU_at (Or.inl (zne (zr (k := 56) (t2 := 105) hG ha rfl) ha (by decide))), (zFr_g hF_s30 ha (by decide))])
                            have f432 := zf hS_s29 ha (k := 24) rfl
                            have g433 : s47 a 38 = s29 a 38 := (by rw [e_s47, zU_at (Or.inl (zne (zr (k := 56) (t2 := 105) hG ha rfl) ha (by decide))), e_s45, zU_at (Or.inl (zne (zr (k := 56) (t2 := 105) hG ha rfl) ha (by decide))), e_s44, zU_at (Or.inl (zne (zr (k := 56) (t2 := 105) hG ha rfl) ha (by decide))), (zFr_g hF_s30 ha (by decide))])
                            have f434 := zf hS_s29 ha (k := 38) rfl
                            have g435 : zc (s47 (gP G a 27)) = zc (s30 (gP G a 27)) := by rw [e_s47, zU_ne (zne (zr (k := 56) (t2 := 105) hG ha rfl) (zr (k := 27) (t2 := 84) hG ha rfl) (by decide)), e_s45, zU_ne (zne (zr (k := 56) (t2 := 105) hG ha rfl) (zr (k := 27) (t2 := 84) hG ha rfl) (by decide)), e_s44, zU_ne (zne (zr (k := 56) (t2 := 105) hG ha rfl) (zr (k := 27) (t2 := 84) hG ha rfl) (by decide))]
                            have g436 : s47 (gP G a 27) 488 = s30 (gP G a 27) 488 := (by rw [e_s47, zU_at (Or.inl (zne (zr (k := 56) (t2 := 105) hG ha rfl) (zr (k := 27) (t2 := 84) hG ha rfl) (by decide))), e_s45, zU_at (Or.inl (zne (zr (k := 56) (t2 := 105) hG ha rfl) (zr (k := 27) (t2 := 84) hG ha rfl) (by decide))), e_s44, zU_at (Or.inl (zne (zr (k := 56) (t2 := 105) hG ha rfl) (zr (k := 27) (t2 := 84) hG ha rfl) (by decide)))])
                            exact j_sub [1, 2, 3, 4, 0] [(0, .ref a), (1, .int (zI x1)), (2, .int (zI x2)), (3, .int (zI x3)), (4, .int (zI (v92 + 1)))] rfl (ih_c71_11 (v92 + 1) s47 (by omega) (by omega) hS_s47 (zFr_u (zFr_u (zFr_u (zFr_t (zFr_t (zFr_t (zFr_t zFr_rf hF_s12 (by decide)) hF_s28 (by decide)) hF_s29 (by decide)) hF_s30 (by decide)) e_s44 (zr (k := 56) (t2 := 105) hG ha rfl) (by decide)) e_s45 (zr (k := 56) (t2 := 105) hG ha rfl) (by decide)) e_s47 (zr (k := 56) (t2 := 105) hG ha rfl) (by decide)) (by omega) (by omega) (by omega) (by omega) (by omega) (by omega) (by omega) (by omega) (by omega) (by omega) (by omega) (by omega))
                        · skip
                          refine j_aload_n hx 0 dX12_lot_170 rfl ?_
                          refine g13_56 hx hG ha kf_RX12_121 dX12_lot_171 ?_
                          refine j_iconst hx dX12_lot_174 ?_
                          refine j_aload_n hx 0 dX12_lot_175 rfl ?_
                          refine g13_54 hx hG ha kf_RX12_441 (v := (s29 a 54)) (by rw [e_s45, zU_at (Or.inl (zne (zr (k := 56) (t2 := 105) hG ha rfl) ha (by decide))), e_s44, zU_at (Or.inl (zne (zr (k := 56) (t2 := 105) hG ha rfl) ha (by decide))), (zFr_g hF_s30 ha (by decide))]) dX12_lot_176 ?_
                          refine j_iadd hx (r := (s29 a 54) + 2) dX12_lot_179 (by omega) ?_
                          refine j_dup2 hx dX12_lot_180 rfl rfl ?_
                          have f437 := zaI (j := ((s29 a 54) + 2).toNat) hS_s12 (zr (k := 56) (t2 := 105) hG ha rfl) rfl (zlen hG (zr (k := 56) (t2 := 105) hG ha rfl) (n := 6) rfl rfl) (show 0 ≤ (s29 a 54) + 2 by omega) (by omega) rfl
                          refine j_iald hx hG (zr (k := 56) (t2 := 105) hG ha rfl) (by decide) rfl (zlen hG (zr (k := 56) (t2 := 105) hG ha rfl) (n := 6) rfl rfl) (by omega) (by omega) (j := ((s29 a 54) + 2).toNat) rfl (v := (s12 (gP G a 56) ((s29 a 54) + 2).toNat)) (by rw [e_s45, zU_at (Or.inr (by omega)), e_s44, zU_at (Or.inr (by omega)), (zFr_g hF_s30 (zr (k := 56) (t2 := 105) hG ha rfl) (by decide)), (zFr_g hF_s29 (zr (k := 56) (t2 := 105) hG ha rfl) (by decide)), (zFr_g hF_s28 (zr (k := 56) (t2 := 105) hG ha rfl) (by decide))]) dX12_lot_181 ?_
                          refine j_iconst hx dX12_lot_182 ?_
                          refine j_iadd hx (r := (s12 (gP G a 56) ((s29 a 54) + 2).toNat) + 1) dX12_lot_183 (by omega) ?_
                          refine j_norm (fun v438 f439 f440 f441 => ?_)
                          refine j_iast hx hG (zr (k := 56) (t2 := 105) hG ha rfl) (by decide) rfl (zlen hG (zr (k := 56) (t2 := 105) hG ha rfl) (n := 6) rfl rfl) (by omega) (by omega) (j := ((s29 a 54) + 2).toNat) rfl dX12_lot_184 ?_
                          obtain ⟨s48, e_s48⟩ : ∃ z, z = zU s45 (gP G a 56) ((s29 a 54) + 2).toNat v438 := ⟨_, rfl⟩
                          rw [← e_s48]
                          have hS_s48 : zSK G s48 := by rw [e_s48]; exact zSK_A hS_s45 (zr (k := 56) (t2 := 105) hG ha rfl) rfl rfl rfl (by omega)
                          refine j_aload_n hx 0 dX12_lot_185 rfl ?_
                          refine g13_56 hx hG ha kf_RX12_121 dX12_lot_186 ?_
                          refine j_iconst hx dX12_lot_189 ?_
                          refine j_dup2 hx dX12_lot_190 rfl rfl ?_
                          have f442 := zaI (j := 5) hS_s12 (zr (k := 56) (t2 := 105) hG ha rfl) rfl (zlen hG (zr (k := 56) (t2 := 105) hG ha rfl) (n := 6) rfl rfl) (show 0 ≤ 5 by omega) (by omega) rfl
                          refine j_iald hx hG (zr (k := 56) (t2 := 105) hG ha rfl) (by decide) rfl (zlen hG (zr (k := 56) (t2 := 105) hG ha rfl) (n := 6) rfl rfl) (by omega) (by omega) (j := 5) rfl (v := (s12 (gP G a 56) 5)) (by rw [e_s48, zU_at (Or.inr (by omega)), e_s45, zU_at (Or.inr (by decide)), e_s44, zU_at (Or.inr (by decide)), (zFr_g hF_s30 (zr (k := 56) (t2 := 105) hG ha rfl) (by decide)), (zFr_g hF_s29 (zr (k := 56) (t2 := 105) hG ha rfl) (by decide)), (zFr_g hF_s28 (zr (k := 56) (t2 := 105) hG ha rfl) (by decide))]) dX12_lot_191 ?_
                          refine j_aload_n hx 0 dX12_lot_192 rfl ?_
                          have f443 := zf hS_s29 ha (k := 51) rfl
                          refine g13_51 hx hG ha kf_RX12_432 (v := (s29 a 51)) (by rw [e_s48, zU_at (Or.inl (zne (zr (k := 56) (t2 := 105) hG ha rfl) ha (by decide))), e_s45, zU_at (Or.inl (zne (zr (k := 56) (t2 := 105) hG ha rfl) ha (by decide))), e_s44, zU_at (Or.inl (zne (zr (k := 56) (t2 := 105) hG ha rfl) ha (by decide))), (zFr_g hF_s30 ha (by decide))]) dX12_lot_193 ?_
                          refine j_iconst hx dX12_lot_196 ?_
                          refine j_icmp_ne hx 204 dX12_lot_197 rfl (by omega) ⟨by decide, by decide⟩ (fun h444 => ?_) (fun h444 => ?_)
                          · skip
                            refine j_iconst hx dX12_lot_204 ?_
                            refine j_iadd hx (r := (s12 (gP G a 56) 5) + 1) dX12_lot_205 (by omega) ?_
                            refine j_norm (fun v445 f446 f447 f448 => ?_)
                            refine j_iast hx hG (zr (k := 56) (t2 := 105) hG ha rfl) (by decide) rfl (zlen hG (zr (k := 56) (t2 := 105) hG ha rfl) (n := 6) rfl rfl) (by omega) (by omega) (j := 5) rfl dX12_lot_206 ?_
                            obtain ⟨s49, e_s49⟩ : ∃ z, z = zU s48 (gP G a 56) 5 v445 := ⟨_, rfl⟩
                            rw [← e_s49]
                            have hS_s49 : zSK G s49 := by rw [e_s49]; exact zSK_A hS_s48 (zr (k := 56) (t2 := 105) hG ha rfl) rfl rfl rfl (by omega)
                            refine j_iinc hx 4 [(4, .int (zI (v92 + 1))), (0, .ref a), (1, .int (zI x1)), (2, .int (zI x2)), (3, .int (zI x3))] dX12_lot_207 rfl (by omega) (by decide) rfl ?_
                            refine j_goto hx 71 dX12_lot_210 rfl ?_
                            have g449 : s49 a 0 = s29 a 0 := (by rw [e_s49, zU_at (Or.inl (zne (zr (k := 56) (t2 := 105) hG ha rfl) ha (by decide))), e_s48, zU_at (Or.inl (zne (zr (k := 56) (t2 := 105) hG ha rfl) ha (by decide))), e_s45, zU_at (Or.inl (zne (zr (k := 56) (t2 := 105) hG ha rfl) ha (by decide))), e_s44, zU_at (Or.inl (zne (zr (k := 56) (t2 := 105) hG ha rfl) ha (by decide))), (zFr_g hF_s30 ha (by decide))])
                            have f450 := zf hS_s29 ha (k := 0) rfl
                            have g451 : s49 a 3 = s29 a 3 := (by rw [e_s49, zU_at (Or.inl (zne (zr (k := 56) (t2 := 105) hG ha rfl) ha (by decide))), e_s48, zU_at (Or.inl (zne (zr (k := 56) (t2 := 105) hG ha rfl) ha (by decide))), e_s45, zU_at (Or.inl (zne (zr (k := 56) (t2 := 105) hG ha rfl) ha (by decide))), e_s44, zU_at (Or.inl (zne (zr (k := 56) (t2 := 105) hG ha rfl) ha (by decide))), (zFr_g hF_s30 ha (by decide))])
                            have f452 := zf hS_s29 ha (k := 3) rfl
                            have g453 : s49 a 4 = s29 a 4 := (by rw [e_s49, zU_at (Or.inl (zne (zr (k := 56) (t2 := 105) hG ha rfl) ha (by decide))), e_s48, zU_at (Or.inl (zne (zr (k := 56) (t2 := 105) hG ha rfl) ha (by decide))), e_s45, zU_at (Or.inl (zne (zr (k := 56) (t2 := 105) hG ha rfl) ha (by decide))), e_s44, zU_at (Or.inl (zne (zr (k := 56) (t2 := 105) hG ha rfl) ha (by decide))), (zFr_g hF_s30 ha (by decide))])
                            have f454 := zf hS_s29 ha (k := 4) rfl
                            have g455 : s49 a 5 = s29 a 5 := (by rw [e_s49, zU_at (Or.inl (zne (zr (k := 56) (t2 := 105) hG ha rfl) ha (by decide))), e_s48, zU_at (Or.inl (zne (zr (k := 56) (t2 := 105) hG ha rfl) ha (by decide))), e_s45, zU_at (Or.inl (zne (zr (k := 56) (t2 := 105) hG ha rfl) ha (by decide))), e_s44, zU_at (Or.inl (zne (zr (k := 56) (t2 := 105) hG ha rfl) ha (by decide))), (zFr_g hF_s30 ha (by decide))])
                            have f456 := zf hS_s29 ha (k := 5) rfl
                            have g457 : s49 a 7 = s29 a 7 := (by rw [e_s49, zU_at (Or.inl (zne (zr (k := 56) (t2 := 105) hG ha rfl) ha (by decide))), e_s48, zU_at (Or.inl (zne (zr (k := 56) (t2 := 105) hG ha rfl) ha (by decide))), e_s45, zU_at (Or.inl (zne (zr (k := 56) (t2 := 105) hG ha rfl) ha (by decide))), e_s44, zU_at (Or.inl (zne (zr (k := 56) (t2 := 105) hG ha rfl) ha (by decide))), (zFr_g hF_s30 ha (by decide))])
                            have f458 := zf hS_s29 ha (k := 7) rfl
                            have g459 : s49 a 21 = s29 a 21 := (by rw [e_s49, zU_at (Or.inl (zne (zr (k := 56) (t2 := 105) hG ha rfl) ha (by decide))), e_s48, zU_at (Or.inl (zne (zr (k := 56) (t2 := 105) hG ha rfl) ha (by decide))), e_s45, zU_at (Or.inl (zne (zr (k := 56) (t2 := 105) hG ha rfl) ha (by decide))), e_s44, zU_at (Or.inl (zne (zr (k := 56) (t2 := 105) hG ha rfl) ha (by decide))), (zFr_g hF_s30 ha (by decide))])
                            have f460 := zf hS_s29 ha (k := 21) rfl
                            have g461 : s49 a 22 = s29 a 22 := (by rw [e_s49, zU_at (Or.inl (zne (zr (k := 56) (t2 := 105) hG ha rfl) ha (by decide))), e_s48, zU_at (Or.inl (zne (zr (k := 56) (t2 := 105) hG ha rfl) ha (by decide))), e_s45, zU_at (Or.inl (zne (zr (k := 56) (t2 := 105) hG ha rfl) ha (by decide))), e_s44, zU_at (Or.inl (zne (zr (k := 56) (t2 := 105) hG ha rfl) ha (by decide))), (zFr_g hF_s30 ha (by decide))])
                            have f462 := zf hS_s29 ha (k := 22) rfl
                            have g463 : s49 a 23 = s29 a 23 := (by rw [e_s49, zU_at (Or.inl (zne (zr (k := 56) (t2 := 105) hG ha rfl) ha (by decide))), e_s48, zU_at (Or.inl (zne (zr (k := 56) (t2 := 105) hG ha rfl) ha (by decide))), e_s45, zU_at (Or.inl (zne (zr (k := 56) (t2 := 105) hG ha rfl) ha (by decide))), e_s44, zU_at (Or.inl (zne (zr (k := 56) (t2 := 105) hG ha rfl) ha (by decide))), (zFr_g hF_s30 ha (by decide))])
                            have f464 := zf hS_s29 ha (k := 23) rfl
                            have g465 : s49 a 24 = s29 a 24 := (by rw [e_s49, zU_at (Or.inl (zne (zr (k := 56) (t2 := 105) hG ha rfl) ha (by decide))), e_s48, zU_at (Or.inl (zne (zr (k := 56) (t2 := 105) hG ha rfl) ha (by decide))), e_s45, zU_at (Or.inl (zne (zr (k := 56) (t2 := 105) hG ha rfl) ha (by decide))), e_s44, zU_at (Or.inl (zne (zr (k := 56) (t2 := 105) hG ha rfl) ha (by decide))), (zFr_g hF_s30 ha (by decide))])
                            have f466 := zf hS_s29 ha (k := 24) rfl
                            have g467 : s49 a 38 = s29 a 38 := (by rw [e_s49, zU_at (Or.inl (zne (zr (k := 56) (t2 := 105) hG ha rfl) ha (by decide))), e_s48, zU_at (Or.inl (zne (zr (k := 56) (t2 := 105) hG ha rfl) ha (by decide))), e_s45, zU_at (Or.inl (zne (zr (k := 56) (t2 := 105) hG ha rfl) ha (by decide))), e_s44, zU_at (Or.inl (zne (zr (k := 56) (t2 := 105) hG ha rfl) ha (by decide))), (zFr_g hF_s30 ha (by decide))])
                            have f468 := zf hS_s29 ha (k := 38) rfl
                            have g469 : zc (s49 (gP G a 27)) = zc (s30 (gP G a 27)) := by rw [e_s49, zU_ne (zne (zr (k := 56) (t2 := 105) hG ha rfl) (zr (k := 27) (t2 := 84) hG ha rfl) (by decide)), e_s48, zU_ne (zne (zr (k := 56) (t2 := 105) hG ha rfl) (zr (k := 27) (t2 := 84) hG ha rfl) (by decide)), e_s45, zU_ne (zne (zr (k := 56) (t2 := 105) hG ha rfl) (zr (k := 27) (t2 := 84) hG ha rfl) (by decide)), e_s44, zU_ne (zne (zr (k := 56) (t2 := 105) hG ha rfl) (zr (k := 27) (t2 := 84) hG ha rfl) (by decide))]
                            have g470 : s49 (gP G a 27) 488 = s30 (gP G a 27) 488 := (by rw [e_s49, zU_at (Or.inl (zne (zr (k := 56) (t2 := 105) hG ha rfl) (zr (k := 27) (t2 := 84) hG ha rfl) (by decide))), e_s48, zU_at (Or.inl (zne (zr (k := 56) (t2 := 105) hG ha rfl) (zr (k := 27) (t2 := 84) hG ha rfl) (by decide))), e_s45, zU_at (Or.inl (zne (zr (k := 56) (t2 := 105) hG ha rfl) (zr (k := 27) (t2 := 84) hG ha rfl) (by decide))), e_s44, zU_at (Or.inl (zne (zr (k := 56) (t2 := 105) hG ha rfl) (zr (k := 27) (t2 := 84) hG ha rfl) (by decide)))])
                            exact j_sub [1, 2, 3, 4, 0] [(0, .ref a), (1, .int (zI x1)), (2, .int (zI x2)), (3, .int (zI x3)), (4, .int (zI (v92 + 1)))] rfl (ih_c71_11 (v92 + 1) s49 (by omega) (by omega) hS_s49 (zFr_u (zFr_u (zFr_u (zFr_u (zFr_t (zFr_t (zFr_t (zFr_t zFr_rf hF_s12 (by decide)) hF_s28 (by decide)) hF_s29 (by decide)) hF_s30 (by decide)) e_s44 (zr (k := 56) (t2 := 105) hG ha rfl) (by decide)) e_s45 (zr (k := 56) (t2 := 105) hG ha rfl) (by decide)) e_s48 (zr (k := 56) (t2 := 105) hG ha rfl) (by decide)) e_s49 (zr (k := 56) (t2 := 105) hG ha rfl) (by decide)) (by omega) (by omega) (by omega) (by omega) (by omega) (by omega) (by omega) (by omega) (by omega) (by omega) (by omega) (by omega))
                          · skip
                            refine j_iconst hx dX12_lot_200 ?_
                            refine j_goto hx 205 dX12_lot_201 rfl ?_
                            refine j_iadd hx (r := (s12 (gP G a 56) 5)) dX12_lot_205 (by omega) ?_
                            refine j_iast hx hG (zr (k := 56) (t2 := 105) hG ha rfl) (by decide) rfl (zlen hG (zr (k := 56) (t2 := 105) hG ha rfl) (n := 6) rfl rfl) (by omega) (by omega) (j := 5) rfl dX12_lot_206 ?_
                            obtain ⟨s50, e_s50⟩ : ∃ z, z = zU s48 (gP G a 56) 5 ((s12 (gP G a 56) 5)) := ⟨_, rfl⟩
                            rw [← e_s50]
                            have hS_s50 : zSK G s50 := by rw [e_s50]; exact zSK_A hS_s48 (zr (k := 56) (t2 := 105) hG ha rfl) rfl rfl rfl (by omega)
                            refine j_iinc hx 4 [(4, .int (zI (v92 + 1))), (0, .ref a), (1, .int (zI x1)), (2, .int (zI x2)), (3, .int (zI x3))] dX12_lot_207 rfl (by omega) (by decide) rfl ?_
                            refine j_goto hx 71 dX12_lot_210 rfl ?_
                            have g471 : s50 a 0 = s29 a 0 := (by rw [e_s50, zU_at (Or.inl (zne (zr (k := 56) (t2 := 105) hG ha rfl) ha (by decide))), e_s48, zU_at (Or.inl (zne (zr (k := 56) (t2 := 105) hG ha rfl) ha (by decide))), e_s45, zU_at (Or.inl (zne (zr (k := 56) (t2 := 105) hG ha rfl) ha (by decide))), e_s44, zU_at (Or.inl (zne (zr (k := 56) (t2 := 105) hG ha rfl) ha (by decide))), (zFr_g hF_s30 ha (by decide))])
                            have f472 := zf hS_s29 ha (k := 0) rfl
                            have g473 : s50 a 3 = s29 a 3 := (by rw [e_s50, zU_at (Or.inl (zne (zr (k := 56) (t2 := 105) hG ha rfl) ha (by decide))), e_s48, zU_at (Or.inl (zne (zr (k := 56) (t2 := 105) hG ha rfl) ha (by decide))), e_s45, zU_at (Or.inl (zne (zr (k := 56) (t2 := 105) hG ha rfl) ha (by decide))), e_s44, zU_at (Or.inl (zne (zr (k := 56) (t2 := 105) hG ha rfl) ha (by decide))), (zFr_g hF_s30 ha (by decide))])
                            have f474 := zf hS_s29 ha (k := 3) rfl
                            have g475 : s50 a 4 = s29 a 4 := (by rw [e_s50, zU_at (Or.inl (zne (zr (k := 56) (t2 := 105) hG ha rfl) ha (by decide))), e_s48, zU_at (Or.inl (zne (zr (k := 56) (t2 := 105) hG ha rfl) ha (by decide))), e_s45, zU_at (Or.inl (zne (zr (k := 56) (t2 := 105) hG ha rfl) ha (by decide))), e_s44, zU_at (Or.inl (zne (zr (k := 56) (t2 := 105) hG ha rfl) ha (by decide))), (zFr_g hF_s30 ha (by decide))])
                            have f476 := zf hS_s29 ha (k := 4) rfl
                            have g477 : s50 a 5 = s29 a 5 := (by rw [e_s50, zU_at (Or.inl (zne (zr (k := 56) (t2 := 105) hG ha rfl) ha (by decide))), e_s48, zU_at (Or.inl (zne (zr (k := 56) (t2 := 105) hG ha rfl) ha (by decide))), e_s45, zU_at (Or.inl (zne (zr (k := 56) (t2 := 105) hG ha rfl) ha (by decide))), e_s44, zU_at (Or.inl (zne (zr (k := 56) (t2 := 105) hG ha rfl) ha (by decide))), (zFr_g hF_s30 ha (by decide))])
                            have f478 := zf hS_s29 ha (k := 5) rfl
                            have g479 : s50 a 7 = s29 a 7 := (by rw [e_s50, zU_at (Or.inl (zne (zr (k := 56) (t2 := 105) hG ha rfl) ha (by decide))), e_s48, zU_at (Or.inl (zne (zr (k := 56) (t2 := 105) hG ha rfl) ha (by decide))), e_s45, zU_at (Or.inl (zne (zr (k := 56) (t2 := 105) hG ha rfl) ha (by decide))), e_s44, zU_at (Or.inl (zne (zr (k := 56) (t2 := 105) hG ha rfl) ha (by decide))), (zFr_g hF_s30 ha (by decide))])
                            have f480 := zf hS_s29 ha (k := 7) rfl
                            have g481 : s50 a 21 = s29 a 21 := (by rw [e_s50, zU_at (Or.inl (zne (zr (k := 56) (t2 := 105) hG ha rfl) ha (by decide))), e_s48, zU_at (Or.inl (zne (zr (k := 56) (t2 := 105) hG ha rfl) ha (by decide))), e_s45, zU_at (Or.inl (zne (zr (k := 56) (t2 := 105) hG ha rfl) ha (by decide))), e_s44, zU_at (Or.inl (zne (zr (k := 56) (t2 := 105) hG ha rfl) ha (by decide))), (zFr_g hF_s30 ha (by decide))])
                            have f482 := zf hS_s29 ha (k := 21) rfl
                            have g483 : s50 a 22 = s29 a 22 := (by rw [e_s50, zU_at (Or.inl (zne (zr (k := 56) (t2 := 105) hG ha rfl) ha (by decide))), e_s48, zU_at (Or.inl (zne (zr (k := 56) (t2 := 105) hG ha rfl) ha (by decide))), e_s45, zU_at (Or.inl (zne (zr (k := 56) (t2 := 105) hG ha rfl) ha (by decide))), e_s44, zU_at (Or.inl (zne (zr (k := 56) (t2 := 105) hG ha rfl) ha (by decide))), (zFr_g hF_s30 ha (by decide))])
                            have f484 := zf hS_s29 ha (k := 22) rfl
                            have g485 : s50 a 23 = s29 a 23 := (by rw [e_s50, zU_at (Or.inl (zne (zr (k := 56) (t2 := 105) hG ha rfl) ha (by decide))), e_s48, zU_at (Or.inl (zne (zr (k := 56) (t2 := 105) hG ha rfl) ha (by decide))), e_s45, zU_at (Or.inl (zne (zr (k := 56) (t2 := 105) hG ha rfl) ha (by decide))), e_s44, zU_at (Or.inl (zne (zr (k := 56) (t2 := 105) hG ha rfl) ha (by decide))), (zFr_g hF_s30 ha (by decide))])
                            have f486 := zf hS_s29 ha (k := 23) rfl
                            have g487 : s50 a 24 = s29 a 24 := (by rw [e_s50, zU_at (Or.inl (zne (zr (k := 56) (t2 := 105) hG ha rfl) ha (by decide))), e_s48, zU_at (Or.inl (zne (zr (k := 56) (t2 := 105) hG ha rfl) ha (by decide))), e_s45, zU_at (Or.inl (zne (zr (k := 56) (t2 := 105) hG ha rfl) ha (by decide))), e_s44, zU_at (Or.inl (zne (zr (k := 56) (t2 := 105) hG ha rfl) ha (by decide))), (zFr_g hF_s30 ha (by decide))])
                            have f488 := zf hS_s29 ha (k := 24) rfl
                            have g489 : s50 a 38 = s29 a 38 := (by rw [e_s50, zU_at (Or.inl (zne (zr (k := 56) (t2 := 105) hG ha rfl) ha (by decide))), e_s48, zU_at (Or.inl (zne (zr (k := 56) (t2 := 105) hG ha rfl) ha (by decide))), e_s45, zU_at (Or.inl (zne (zr (k := 56) (t2 := 105) hG ha rfl) ha (by decide))), e_s44, zU_at (Or.inl (zne (zr (k := 56) (t2 := 105) hG ha rfl) ha (by decide))), (zFr_g hF_s30 ha (by decide))])
                            have f490 := zf hS_s29 ha (k := 38) rfl
                            have g491 : zc (s50 (gP G a 27)) = zc (s30 (gP G a 27)) := by rw [e_s50, zU_ne (zne (zr (k := 56) (t2 := 105) hG ha rfl) (zr (k := 27) (t2 := 84) hG ha rfl) (by decide)), e_s48, zU_ne (zne (zr (k := 56) (t2 := 105) hG ha rfl) (zr (k := 27) (t2 := 84) hG ha rfl) (by decide)), e_s45, zU_ne (zne (zr (k := 56) (t2 := 105) hG ha rfl) (zr (k := 27) (t2 := 84) hG ha rfl) (by decide)), e_s44, zU_ne (zne (zr (k := 56) (t2 := 105) hG ha rfl) (zr (k := 27) (t2 := 84) hG ha rfl) (by decide))]
                            have g492 : s50 (gP G a 27) 488 = s30 (gP G a 27) 488 := (by rw [e_s50, zU_at (Or.inl (zne (zr (k := 56) (t2 := 105) hG ha rfl) (zr (k := 27) (t2 := 84) hG ha rfl) (by decide))), e_s48, zU_at (Or.inl (zne (zr (k := 56) (t2 := 105) hG ha rfl) (zr (k := 27) (t2 := 84) hG ha rfl) (by decide))), e_s45, zU_at (Or.inl (zne (zr (k := 56) (t2 := 105) hG ha rfl) (zr (k := 27) (t2 := 84) hG ha rfl) (by decide))), e_s44, zU_at (Or.inl (zne (zr (k := 56) (t2 := 105) hG ha rfl) (zr (k := 27) (t2 := 84) hG ha rfl) (by decide)))])
                            exact j_sub [1, 2, 3, 4, 0] [(0, .ref a), (1, .int (zI x1)), (2, .int (zI x2)), (3, .int (zI x3)), (4, .int (zI (v92 + 1)))] rfl (ih_c71_11 (v92 + 1) s50 (by omega) (by omega) hS_s50 (zFr_u (zFr_u (zFr_u (zFr_u (zFr_t (zFr_t (zFr_t (zFr_t zFr_rf hF_s12 (by decide)) hF_s28 (by decide)) hF_s29 (by decide)) hF_s30 (by decide)) e_s44 (zr (k := 56) (t2 := 105) hG ha rfl) (by decide)) e_s45 (zr (k := 56) (t2 := 105) hG ha rfl) (by decide)) e_s48 (zr (k := 56) (t2 := 105) hG ha rfl) (by decide)) e_s50 (zr (k := 56) (t2 := 105) hG ha rfl) (by decide)) (by omega) (by omega) (by omega) (by omega) (by omega) (by omega) (by omega) (by omega) (by omega) (by omega) (by omega) (by omega))
                      · skip
                        refine j_aload_n hx 0 dX12_lot_148 rfl ?_
                        refine g13_52 hx hG ha kf_RX12_429 (v := (s29 a 52)) (by rw [e_s44, zU_at (Or.inl (zne (zr (k := 56) (t2 := 105) hG ha rfl) ha (by decide))), (zFr_g hF_s30 ha (by decide))]) dX12_lot_149 ?_
                        refine j_goto hx 161 dX12_lot_152 rfl ?_
                        refine j_iast hx hG (zr (k := 56) (t2 := 105) hG ha rfl) (by decide) rfl (zlen hG (zr (k := 56) (t2 := 105) hG ha rfl) (n := 6) rfl rfl) (by omega) (by omega) (j := 1) rfl dX12_lot_161 ?_
                        obtain ⟨s51, e_s51⟩ : ∃ z, z = zU s44 (gP G a 56) 1 ((s29 a 52)) := ⟨_, rfl⟩
                        rw [← e_s51]
                        have hS_s51 : zSK G s51 := by rw [e_s51]; exact zSK_A hS_s44 (zr (k := 56) (t2 := 105) hG ha rfl) rfl rfl rfl (by omega)
                        refine j_aload_n hx 0 dX12_lot_162 rfl ?_
                        have f493 := zf hS_s29 ha (k := 54) rfl
                        refine g13_54 hx hG ha kf_RX12_441 (v := (s29 a 54)) (by rw [e_s51, zU_at (Or.inl (zne (zr (k := 56) (t2 := 105) hG ha rfl) ha (by decide))), e_s44, zU_at (Or.inl (zne (zr (k := 56) (t2 := 105) hG ha rfl) ha (by decide))), (zFr_g hF_s30 ha (by decide))]) dX12_lot_163 ?_
                        refine j_iconst hx dX12_lot_166 ?_
                        refine j_icmp_eq hx 185 dX12_lot_167 rfl (by omega) ⟨by decide, by decide⟩ (fun h494 => ?_) (fun h494 => ?_)
                        · skip
                          refine j_aload_n hx 0 dX12_lot_185 rfl ?_
                          refine g13_56 hx hG ha kf_RX12_121 dX12_lot_186 ?_
                          refine j_iconst hx dX12_lot_189 ?_
                          refine j_dup2 hx dX12_lot_190 rfl rfl ?_
                          have f495 := zaI (j := 5) hS_s12 (zr (k := 56) (t2 := 105) hG ha rfl) rfl (zlen hG (zr (k := 56) (t2 := 105) hG ha rfl) (n := 6) rfl rfl) (show 0 ≤ 5 by omega) (by omega) rfl
                          refine j_iald hx hG (zr (k := 56) (t2 := 105) hG ha rfl) (by decide) rfl (zlen hG (zr (k := 56) (t2 := 105) hG ha rfl) (n := 6) rfl rfl) (by omega) (by omega) (j := 5) rfl (v := (s12 (gP G a 56) 5)) (by rw [e_s51, zU_at (Or.inr (by decide)), e_s44, zU_at (Or.inr (by decide)), (zFr_g hF_s30 (zr (k := 56) (t2 := 105) hG ha rfl) (by decide)), (zFr_g hF_s29 (zr (k := 56) (t2 := 105) hG ha rfl) (by decide)), (zFr_g hF_s28 (zr (k := 56) (t2 := 105) hG ha rfl) (by decide))]) dX12_lot_191 ?_
                          refine j_aload_n hx 0 dX12_lot_192 rfl ?_
                          have f496 := zf hS_s29 ha (k := 51) rfl
                          refine g13_51 hx hG ha kf_RX12_432 (v := (s29 a 51)) (by rw [e_s51, zU_at (Or.inl (zne (zr (k := 56) (t2 := 105) hG ha rfl) ha (by decide))), e_s44, zU_at (Or.inl (zne (zr (k := 56) (t2 := 105) hG ha rfl) ha (by decide))), (zFr_g hF_s30 ha (by decide))]) dX12_lot_193 ?_
                          refine j_iconst hx dX12_lot_196 ?_
                          refine j_icmp_ne hx 204 dX12_lot_197 rfl (by omega) ⟨by decide, by decide⟩ (fun h497 => ?_) (fun h497 => ?_)
                          · skip
                            refine j_iconst hx dX12_lot_204 ?_
                            refine j_iadd hx (r := (s12 (gP G a 56) 5) + 1) dX12_lot_205 (by omega) ?_
                            refine j_norm (fun v498 f499 f500 f501 => ?_)
                            refine j_iast hx hG (zr (k := 56) (t2 := 105) hG ha rfl) (by decide) rfl (zlen hG (zr (k := 56) (t2 := 105) hG ha rfl) (n := 6) rfl rfl) (by omega) (by omega) (j := 5) rfl dX12_lot_206 ?_
                            obtain ⟨s52, e_s52⟩ : ∃ z, z = zU s51 (gP G a 56) 5 v498 := ⟨_, rfl⟩
                            rw [← e_s52]
                            have hS_s52 : zSK G s52 := by rw [e_s52]; exact zSK_A hS_s51 (zr (k := 56) (t2 := 105) hG ha rfl) rfl rfl rfl (by omega)
                            refine j_iinc hx 4 [(4, .int (zI (v92 + 1))), (0, .ref a), (1, .int (zI x1)), (2, .int (zI x2)), (3, .int (zI x3))] dX12_lot_207 rfl (by omega) (by decide) rfl ?_
                            refine j_goto hx 71 dX12_lot_210 rfl ?_
                            have g502 : s52 a 0 = s29 a 0 := (by rw [e_s52, zU_at (Or.inl (zne (zr (k := 56) (t2 := 105) hG ha rfl) ha (by decide))), e_s51, zU_at (Or.inl (zne (zr (k := 56) (t2 := 105) hG ha rfl) ha (by decide))), e_s44, zU_at (Or.inl (zne (zr (k := 56) (t2 := 105) hG ha rfl) ha (by decide))), (zFr_g hF_s30 ha (by decide))])
                            have f503 := zf hS_s29 ha (k := 0) rfl
                            have g504 : s52 a 3 = s29 a 3 := (by rw [e_s52, zU_at (Or.inl (zne (zr (k := 56) (t2 := 105) hG ha rfl) ha (by decide))), e_s51, zU_at (Or.inl (zne (zr (k := 56) (t2 := 105) hG ha rfl) ha (by decide))), e_s44, zU_at (Or.inl (zne (zr (k := 56) (t2 := 105) hG ha rfl) ha (by decide))), (zFr_g hF_s30 ha (by decide))])
                            have f505 := zf hS_s29 ha (k := 3) rfl
                            have g506 : s52 a 4 = s29 a 4 := (by rw [e_s52, zU_at (Or.inl (zne (zr (k := 56) (t2 := 105) hG ha rfl) ha (by decide))), e_s51, zU_at (Or.inl (zne (zr (k := 56) (t2 := 105) hG ha rfl) ha (by decide))), e_s44, zU_at (Or.inl (zne (zr (k := 56) (t2 := 105) hG ha rfl) ha (by decide))), (zFr_g hF_s30 ha (by decide))])
                            have f507 := zf hS_s29 ha (k := 4) rfl
                            have g508 : s52 a 5 = s29 a 5 := (by rw [e_s52, zU_at (Or.inl (zne (zr (k := 56) (t2 := 105) hG ha rfl) ha (by decide))), e_s51, zU_at (Or.inl (zne (zr (k := 56) (t2 := 105) hG ha rfl) ha (by decide))), e_s44, zU_at (Or.inl (zne (zr (k := 56) (t2 := 105) hG ha rfl) ha (by decide))), (zFr_g hF_s30 ha (by decide))])
                            have f509 := zf hS_s29 ha (k := 5) rfl
                            have g510 : s52 a 7 = s29 a 7 := (by rw [e_s52, zU_at (Or.inl (zne (zr (k := 56) (t2 := 105) hG ha rfl) ha (by decide))), e_s51, zU_at (Or.inl (zne (zr (k := 56) (t2 := 105) hG ha rfl) ha (by decide))), e_s44, zU_at (Or.inl (zne (zr (k := 56) (t2 := 105) hG ha rfl) ha (by decide))), (zFr_g hF_s30 ha (by decide))])
                            have f511 := zf hS_s29 ha (k := 7) rfl
                            have g512 : s52 a 21 = s29 a 21 := (by rw [e_s52, zU_at (Or.inl (zne (zr (k := 56) (t2 := 105) hG ha rfl) ha (by decide))), e_s51, zU_at (Or.inl (zne (zr (k := 56) (t2 := 105) hG ha rfl) ha (by decide))), e_s44, zU_at (Or.inl (zne (zr (k := 56) (t2 := 105) hG ha rfl) ha (by decide))), (zFr_g hF_s30 ha (by decide))])
                            have f513 := zf hS_s29 ha (k := 21) rfl
                            have g514 : s52 a 22 = s29 a 22 := (by rw [e_s52, zU_at (Or.inl (zne (zr (k := 56) (t2 := 105) hG ha rfl) ha (by decide))), e_s51, zU_at (Or.inl (zne (zr (k := 56) (t2 := 105) hG ha rfl) ha (by decide))), e_s44, zU_at (Or.inl (zne (zr (k := 56) (t2 := 105) hG ha rfl) ha (by decide))), (zFr_g hF_s30 ha (by decide))])
                            have f515 := zf hS_s29 ha (k := 22) rfl
                            have g516 : s52 a 23 = s29 a 23 := (by rw [e_s52, zU_at (Or.inl (zne (zr (k := 56) (t2 := 105) hG ha rfl) ha (by decide))), e_s51, zU_at (Or.inl (zne (zr (k := 56) (t2 := 105) hG ha rfl) ha (by decide))), e_s44, zU_at (Or.inl (zne (zr (k := 56) (t2 := 105) hG ha rfl) ha (by decide))), (zFr_g hF_s30 ha (by decide))])
                            have f517 := zf hS_s29 ha (k := 23) rfl
                            have g518 : s52 a 24 = s29 a 24 := (by rw [e_s52, zU_at (Or.inl (zne (zr (k := 56) (t2 := 105) hG ha rfl) ha (by decide))), e_s51, zU_at (Or.inl (zne (zr (k := 56) (t2 := 105) hG ha rfl) ha (by decide))), e_s44, zU_at (Or.inl (zne (zr (k := 56) (t2 := 105) hG ha rfl) ha (by decide))), (zFr_g hF_s30 ha (by decide))])
                            have f519 := zf hS_s29 ha (k := 24) rfl
                            have g520 : s52 a 38 = s29 a 38 := (by rw [e_s52, zU_at (Or.inl (zne (zr (k := 56) (t2 := 105) hG ha rfl) ha (by decide))), e_s51, zU_at (Or.inl (zne (zr (k := 56) (t2 := 105) hG ha rfl) ha (by decide))), e_s44, zU_at (Or.inl (zne (zr (k := 56) (t2 := 105) hG ha rfl) ha (by decide))), (zFr_g hF_s30 ha (by decide))])
                            have f521 := zf hS_s29 ha (k := 38) rfl
                            have g522 : zc (s52 (gP G a 27)) = zc (s30 (gP G a 27)) := by rw [e_s52, zU_ne (zne (zr (k := 56) (t2 := 105) hG ha rfl) (zr (k := 27) (t2 := 84) hG ha rfl) (by decide)), e_s51, zU_ne (zne (zr (k := 56) (t2 := 105) hG ha rfl) (zr (k := 27) (t2 := 84) hG ha rfl) (by decide)), e_s44, zU_ne (zne (zr (k := 56) (t2 := 105) hG ha rfl) (zr (k := 27) (t2 := 84) hG ha rfl) (by decide))]
                            have g523 : s52 (gP G a 27) 488 = s30 (gP G a 27) 488 := (by rw [e_s52, zU_at (Or.inl (zne (zr (k := 56) (t2 := 105) hG ha rfl) (zr (k := 27) (t2 := 84) hG ha rfl) (by decide))), e_s51, zU_at (Or.inl (zne (zr (k := 56) (t2 := 105) hG ha rfl) (zr (k := 27) (t2 := 84) hG ha rfl) (by decide))), e_s44, zU_at (Or.inl (zne (zr (k := 56) (t2 := 105) hG ha rfl) (zr (k := 27) (t2 := 84) hG ha rfl) (by decide)))])
                            exact j_sub [1, 2, 3, 4, 0] [(0, .ref a), (1, .int (zI x1)), (2, .int (zI x2)), (3, .int (zI x3)), (4, .int (zI (v92 + 1)))] rfl (ih_c71_11 (v92 + 1) s52 (by omega) (by omega) hS_s52 (zFr_u (zFr_u (zFr_u (zFr_t (zFr_t (zFr_t (zFr_t zFr_rf hF_s12 (by decide)) hF_s28 (by decide)) hF_s29 (by decide)) hF_s30 (by decide)) e_s44 (zr (k := 56) (t2 := 105) hG ha rfl) (by decide)) e_s51 (zr (k := 56) (t2 := 105) hG ha rfl) (by decide)) e_s52 (zr (k := 56) (t2 := 105) hG ha rfl) (by decide)) (by omega) (by omega) (by omega) (by omega) (by omega) (by omega) (by omega) (by omega) (by omega) (by omega) (by omega) (by omega))
                          · skip
                            refine j_iconst hx dX12_lot_200 ?_
                            refine j_goto hx 205 dX12_lot_201 rfl ?_
                            refine j_iadd hx (r := (s12 (gP G a 56) 5)) dX12_lot_205 (by omega) ?_
                            refine j_iast hx hG (zr (k := 56) (t2 := 105) hG ha rfl) (by decide) rfl (zlen hG (zr (k := 56) (t2 := 105) hG ha rfl) (n := 6) rfl rfl) (by omega) (by omega) (j := 5) rfl dX12_lot_206 ?_
                            obtain ⟨s53, e_s53⟩ : ∃ z, z = zU s51 (gP G a 56) 5 ((s12 (gP G a 56) 5)) := ⟨_, rfl⟩
                            rw [← e_s53]
                            have hS_s53 : zSK G s53 := by rw [e_s53]; exact zSK_A hS_s51 (zr (k := 56) (t2 := 105) hG ha rfl) rfl rfl rfl (by omega)
                            refine j_iinc hx 4 [(4, .int (zI (v92 + 1))), (0, .ref a), (1, .int (zI x1)), (2, .int (zI x2)), (3, .int (zI x3))] dX12_lot_207 rfl (by omega) (by decide) rfl ?_
                            refine j_goto hx 71 dX12_lot_210 rfl ?_
                            have g524 : s53 a 0 = s29 a 0 := (by rw [e_s53, zU_at (Or.inl (zne (zr (k := 56) (t2 := 105) hG ha rfl) ha (by decide))), e_s51, zU_at (Or.inl (zne (zr (k := 56) (t2 := 105) hG ha rfl) ha (by decide))), e_s44, zU_at (Or.inl (zne (zr (k := 56) (t2 := 105) hG ha rfl) ha (by decide))), (zFr_g hF_s30 ha (by decide))])
                            have f525 := zf hS_s29 ha (k := 0) rfl
                            have g526 : s53 a 3 = s29 a 3 := (by rw [e_s53, zU_at (Or.inl (zne (zr (k := 56) (t2 := 105) hG ha rfl) ha (by decide))), e_s51, zU_at (Or.inl (zne (zr (k := 56) (t2 := 105) hG ha rfl) ha (by decide))), e_s44, zU_at (Or.inl (zne (zr (k := 56) (t2 := 105) hG ha rfl) ha (by decide))), (zFr_g hF_s30 ha (by decide))])
                            have f527 := zf hS_s29 ha (k := 3) rfl
                            have g528 : s53 a 4 = s29 a 4 := (by rw [e_s53, zU_at (Or.inl (zne (zr (k := 56) (t2 := 105) hG ha rfl) ha (by decide))), e_s51, zU_at (Or.inl (zne (zr (k := 56) (t2 := 105) hG ha rfl) ha (by decide))), e_s44, zU_at (Or.inl (zne (zr (k := 56) (t2 := 105) hG ha rfl) ha (by decide))), (zFr_g hF_s30 ha (by decide))])
                            have f529 := zf hS_s29 ha (k := 4) rfl
                            have g530 : s53 a 5 = s29 a 5 := (by rw [e_s53, zU_at (Or.inl (zne (zr (k := 56) (t2 := 105) hG ha rfl) ha (by decide))), e_s51, zU_at (Or.inl (zne (zr (k := 56) (t2 := 105) hG ha rfl) ha (by decide))), e_s44, zU_at (Or.inl (zne (zr (k := 56) (t2 := 105) hG ha rfl) ha (by decide))), (zFr_g hF_s30 ha (by decide))])
                            have f531 := zf hS_s29 ha (k := 5) rfl
                            have g532 : s53 a 7 = s29 a 7 := (by rw [e_s53, zU_at (Or.inl (zne (zr (k := 56) (t2 := 105) hG ha rfl) ha (by decide))), e_s51, zU_at (Or.inl (zne (zr (k := 56) (t2 := 105) hG ha rfl) ha (by decide))), e_s44, zU_at (Or.inl (zne (zr (k := 56) (t2 := 105) hG ha rfl) ha (by decide))), (zFr_g hF_s30 ha (by decide))])
                            have f533 := zf hS_s29 ha (k := 7) rfl
                            have g534 : s53 a 21 = s29 a 21 := (by rw [e_s53, zU_at (Or.inl (zne (zr (k := 56) (t2 := 105) hG ha rfl) ha (by decide))), e_s51, zU_at (Or.inl (zne (zr (k := 56) (t2 := 105) hG ha rfl) ha (by decide))), e_s44, zU_at (Or.inl (zne (zr (k := 56) (t2 := 105) hG ha rfl) ha (by decide))), (zFr_g hF_s30 ha (by decide))])
                            have f535 := zf hS_s29 ha (k := 21) rfl
                            have g536 : s53 a 22 = s29 a 22 := (by rw [e_s53, zU_at (Or.inl (zne (zr (k := 56) (t2 := 105) hG ha rfl) ha (by decide))), e_s51, zU_at (Or.inl (zne (zr (k := 56) (t2 := 105) hG ha rfl) ha (by decide))), e_s44, zU_at (Or.inl (zne (zr (k := 56) (t2 := 105) hG ha rfl) ha (by decide))), (zFr_g hF_s30 ha (by decide))])
                            have f537 := zf hS_s29 ha (k := 22) rfl
                            have g538 : s53 a 23 = s29 a 23 := (by rw [e_s53, zU_at (Or.inl (zne (zr (k := 56) (t2 := 105) hG ha rfl) ha (by decide))), e_s51, zU_at (Or.inl (zne (zr (k := 56) (t2 := 105) hG ha rfl) ha (by decide))), e_s44, zU_at (Or.inl (zne (zr (k := 56) (t2 := 105) hG ha rfl) ha (by decide))), (zFr_g hF_s30 ha (by decide))])
                            have f539 := zf hS_s29 ha (k := 23) rfl
                            have g540 : s53 a 24 = s29 a 24 := (by rw [e_s53, zU_at (Or.inl (zne (zr (k := 56) (t2 := 105) hG ha rfl) ha (by decide))), e_s51, zU_at (Or.inl (zne (zr (k := 56) (t2 := 105) hG ha rfl) ha (by decide))), e_s44, zU_at (Or.inl (zne (zr (k := 56) (t2 := 105) hG ha rfl) ha (by decide))), (zFr_g hF_s30 ha (by decide))])
                            have f541 := zf hS_s29 ha (k := 24) rfl
                            have g542 : s53 a 38 = s29 a 38 := (by rw [e_s53, zU_at (Or.inl (zne (zr (k := 56) (t2 := 105) hG ha rfl) ha (by decide))), e_s51, zU_at (Or.inl (zne (zr (k := 56) (t2 := 105) hG ha rfl) ha (by decide))), e_s44, zU_at (Or.inl (zne (zr (k := 56) (t2 := 105) hG ha rfl) ha (by decide))), (zFr_g hF_s30 ha (by decide))])
                            have f543 := zf hS_s29 ha (k := 38) rfl
                            have g544 : zc (s53 (gP G a 27)) = zc (s30 (gP G a 27)) := by rw [e_s53, zU_ne (zne (zr (k := 56) (t2 := 105) hG ha rfl) (zr (k := 27) (t2 := 84) hG ha rfl) (by decide)), e_s51, zU_ne (zne (zr (k := 56) (t2 := 105) hG ha rfl) (zr (k := 27) (t2 := 84) hG ha rfl) (by decide)), e_s44, zU_ne (zne (zr (k := 56) (t2 := 105) hG ha rfl) (zr (k := 27) (t2 := 84) hG ha rfl) (by decide))]
                            have g545 : s53 (gP G a 27) 488 = s30 (gP G a 27) 488 := (by rw [e_s53, zU_at (Or.inl (zne (zr (k := 56) (t2 := 105) hG ha rfl) (zr (k := 27) (t2 := 84) hG ha rfl) (by decide))), e_s51, zU_at (Or.inl (zne (zr (k := 56) (t2 := 105) hG ha rfl) (zr (k := 27) (t2 := 84) hG ha rfl) (by decide))), e_s44, zU_at (Or.inl (zne (zr (k := 56) (t2 := 105) hG ha rfl) (zr (k := 27) (t2 := 84) hG ha rfl) (by decide)))])
                            exact j_sub [1, 2, 3, 4, 0] [(0, .ref a), (1, .int (zI x1)), (2, .int (zI x2)), (3, .int (zI x3)), (4, .int (zI (v92 + 1)))] rfl (ih_c71_11 (v92 + 1) s53 (by omega) (by omega) hS_s53 (zFr_u (zFr_u (zFr_u (zFr_t (zFr_t (zFr_t (zFr_t zFr_rf hF_s12 (by decide)) hF_s28 (by decide)) hF_s29 (by decide)) hF_s30 (by decide)) e_s44 (zr (k := 56) (t2 := 105) hG ha rfl) (by decide)) e_s51 (zr (k := 56) (t2 := 105) hG ha rfl) (by decide)) e_s53 (zr (k := 56) (t2 := 105) hG ha rfl) (by decide)) (by omega) (by omega) (by omega) (by omega) (by omega) (by omega) (by omega) (by omega) (by omega) (by omega) (by omega) (by omega))
                        · skip
                          refine j_aload_n hx 0 dX12_lot_170 rfl ?_
                          refine g13_56 hx hG ha kf_RX12_121 dX12_lot_171 ?_
                          refine j_iconst hx dX12_lot_174 ?_
                          refine j_aload_n hx 0 dX12_lot_175 rfl ?_
                          refine g13_54 hx hG ha kf_RX12_441 (v := (s29 a 54)) (by rw [e_s51, zU_at (Or.inl (zne (zr (k := 56) (t2 := 105) hG ha rfl) ha (by decide))), e_s44, zU_at (Or.inl (zne (zr (k := 56) (t2 := 105) hG ha rfl) ha (by decide))), (zFr_g hF_s30 ha (by decide))]) dX12_lot_176 ?_
                          refine j_iadd hx (r := (s29 a 54) + 2) dX12_lot_179 (by omega) ?_
                          refine j_dup2 hx dX12_lot_180 rfl rfl ?_
                          have f546 := zaI (j := ((s29 a 54) + 2).toNat) hS_s12 (zr (k := 56) (t2 := 105) hG ha rfl) rfl (zlen hG (zr (k := 56) (t2 := 105) hG ha rfl) (n := 6) rfl rfl) (show 0 ≤ (s29 a 54) + 2 by omega) (by omega) rfl
                          refine j_iald hx hG (zr (k := 56) (t2 := 105) hG ha rfl) (by decide) rfl (zlen hG (zr (k := 56) (t2 := 105) hG ha rfl) (n := 6) rfl rfl) (by omega) (by omega) (j := ((s29 a 54) + 2).toNat) rfl (v := (s12 (gP G a 56) ((s29 a 54) + 2).toNat)) (by rw [e_s51, zU_at (Or.inr (by omega)), e_s44, zU_at (Or.inr (by omega)), (zFr_g hF_s30 (zr (k := 56) (t2 := 105) hG ha rfl) (by decide)), (zFr_g hF_s29 (zr (k := 56) (t2 := 105) hG ha rfl) (by decide)), (zFr_g hF_s28 (zr (k := 56) (t2 := 105) hG ha rfl) (by decide))]) dX12_lot_181 ?_
                          refine j_iconst hx dX12_lot_182 ?_
                          refine j_iadd hx (r := (s12 (gP G a 56) ((s29 a 54) + 2).toNat) + 1) dX12_lot_183 (by omega) ?_
                          refine j_norm (fun v547 f548 f549 f550 => ?_)
                          refine j_iast hx hG (zr (k := 56) (t2 := 105) hG ha rfl) (by decide) rfl (zlen hG (zr (k := 56) (t2 := 105) hG ha rfl) (n := 6) rfl rfl) (by omega) (by omega) (j := ((s29 a 54) + 2).toNat) rfl dX12_lot_184 ?_
                          obtain ⟨s54, e_s54⟩ : ∃ z, z = zU s51 (gP G a 56) ((s29 a 54) + 2).toNat v547 := ⟨_, rfl⟩
                          rw [← e_s54]
                          have hS_s54 : zSK G s54 := by rw [e_s54]; exact zSK_A hS_s51 (zr (k := 56) (t2 := 105) hG ha rfl) rfl rfl rfl (by omega)
                          refine j_aload_n hx 0 dX12_lot_185 rfl ?_
                          refine g13_56 hx hG ha kf_RX12_121 dX12_lot_186 ?_
                          refine j_iconst hx dX12_lot_189 ?_
                          refine j_dup2 hx dX12_lot_190 rfl rfl ?_
                          have f551 := zaI (j := 5) hS_s12 (zr (k := 56) (t2 := 105) hG ha rfl) rfl (zlen hG (zr (k := 56) (t2 := 105) hG ha rfl) (n := 6) rfl rfl) (show 0 ≤ 5 by omega) (by omega) rfl
                          refine j_iald hx hG (zr (k := 56) (t2 := 105) hG ha rfl) (by decide) rfl (zlen hG (zr (k := 56) (t2 := 105) hG ha rfl) (n := 6) rfl rfl) (by omega) (by omega) (j := 5) rfl (v := (s12 (gP G a 56) 5)) (by rw [e_s54, zU_at (Or.inr (by omega)), e_s51, zU_at (Or.inr (by decide)), e_s44, zU_at (Or.inr (by decide)), (zFr_g hF_s30 (zr (k := 56) (t2 := 105) hG ha rfl) (by decide)), (zFr_g hF_s29 (zr (k := 56) (t2 := 105) hG ha rfl) (by decide)), (zFr_g hF_s28 (zr (k := 56) (t2 := 105) hG ha rfl) (by decide))]) dX12_lot_191 ?_
                          refine j_aload_n hx 0 dX12_lot_192 rfl ?_
                          have f552 := zf hS_s29 ha (k := 51) rfl
                          refine g13_51 hx hG ha kf_RX12_432 (v := (s29 a 51)) (by rw [e_s54, zU_at (Or.inl (zne (zr (k := 56) (t2 := 105) hG ha rfl) ha (by decide))), e_s51, zU_at (Or.inl (zne (zr (k := 56) (t2 := 105) hG ha rfl) ha (by decide))), e_s44, zU_at (Or.inl (zne (zr (k := 56) (t2 := 105) hG ha rfl) ha (by decide))), (zFr_g hF_s30 ha (by decide))]) dX12_lot_193 ?_
                          refine j_iconst hx dX12_lot_196 ?_
                          refine j_icmp_ne hx 204 dX12_lot_197 rfl (by omega) ⟨by decide, by decide⟩ (fun h553 => ?_) (fun h553 => ?_)
                          · skip
                            refine j_iconst hx dX12_lot_204 ?_
                            refine j_iadd hx (r := (s12 (gP G a 56) 5) + 1) dX12_lot_205 (by omega) ?_
                            refine j_norm (fun v554 f555 f556 f557 => ?_)
                            refine j_iast hx hG (zr (k := 56) (t2 := 105) hG ha rfl) (by decide) rfl (zlen hG (zr (k := 56) (t2 := 105) hG ha rfl) (n := 6) rfl rfl) (by omega) (by omega) (j := 5) rfl dX12_lot_206 ?_
                            obtain ⟨s55, e_s55⟩ : ∃ z, z = zU s54 (gP G a 56) 5 v554 := ⟨_, rfl⟩
                            rw [← e_s55]
                            have hS_s55 : zSK G s55 := by rw [e_s55]; exact zSK_A hS_s54 (zr (k := 56) (t2 := 105) hG ha rfl) rfl rfl rfl (by omega)
                            refine j_iinc hx 4 [(4, .int (zI (v92 + 1))), (0, .ref a), (1, .int (zI x1)), (2, .int (zI x2)), (3, .int (zI x3))] dX12_lot_207 rfl (by omega) (by decide) rfl ?_
                            refine j_goto hx 71 dX12_lot_210 rfl ?_
                            have g558 : s55 a 0 = s29 a 0 := (by rw [e_s55, zU_at (Or.inl (zne (zr (k := 56) (t2 := 105) hG ha rfl) ha (by decide))), e_s54, zU_at (Or.inl (zne (zr (k := 56) (t2 := 105) hG ha rfl) ha (by decide))), e_s51, zU_at (Or.inl (zne (zr (k := 56) (t2 := 105) hG ha rfl) ha (by decide))), e_s44, zU_at (Or.inl (zne (zr (k := 56) (t2 := 105) hG ha rfl) ha (by decide))), (zFr_g hF_s30 ha (by decide))])
                            have f559 := zf hS_s29 ha (k := 0) rfl
                            have g560 : s55 a 3 = s29 a 3 := (by rw [e_s55, zU_at (Or.inl (zne (zr (k := 56) (t2 := 105) hG ha rfl) ha (by decide))), e_s54, zU_at (Or.inl (zne (zr (k := 56) (t2 := 105) hG ha rfl) ha (by decide))), e_s51, zU_at (Or.inl (zne (zr (k := 56) (t2 := 105) hG ha rfl) ha (by decide))), e_s44, zU_at (Or.inl (zne (zr (k := 56) (t2 := 105) hG ha rfl) ha (by decide))), (zFr_g hF_s30 ha (by decide))])
                            have f561 := zf hS_s29 ha (k := 3) rfl
                            have g562 : s55 a 4 = s29 a 4 := (by rw [e_s55, zU_at (Or.inl (zne (zr (k := 56) (t2 := 105) hG ha rfl) ha (by decide))), e_s54, zU_at (Or.inl (zne (zr (k := 56) (t2 := 105) hG ha rfl) ha (by decide))), e_s51, zU_at (Or.inl (zne (zr (k := 56) (t2 := 105) hG ha rfl) ha (by decide))), e_s44, zU_at (Or.inl (zne (zr (k := 56) (t2 := 105) hG ha rfl) ha (by decide))), (zFr_g hF_s30 ha (by decide))])
                            have f563 := zf hS_s29 ha (k := 4) rfl
                            have g564 : s55 a 5 = s29 a 5 := (by rw [e_s55, zU_at (Or.inl (zne (zr (k := 56) (t2 := 105) hG ha rfl) ha (by decide))), e_s54, zU_at (Or.inl (zne (zr (k := 56) (t2 := 105) hG ha rfl) ha (by decide))), e_s51, zU_at (Or.inl (zne (zr (k := 56) (t2 := 105) hG ha rfl) ha (by decide))), e_s44, zU_at (Or.inl (zne (zr (k := 56) (t2 := 105) hG ha rfl) ha (by decide))), (zFr_g hF_s30 ha (by decide))])
                            have f565 := zf hS_s29 ha (k := 5) rfl
                            have g566 : s55 a 7 = s29 a 7 := (by rw [e_s55, zU_at (Or.inl (zne (zr (k := 56) (t2 := 105) hG ha rfl) ha (by decide))), e_s54, zU_at (Or.inl (zne (zr (k := 56) (t2 := 105) hG ha rfl) ha (by decide))), e_s51, zU_at (Or.inl (zne (zr (k := 56) (t2 := 105) hG ha rfl) ha (by decide))), e_s44, zU_at (Or.inl (zne (zr (k := 56) (t2 := 105) hG ha rfl) ha (by decide))), (zFr_g hF_s30 ha (by decide))])
                            have f567 := zf hS_s29 ha (k := 7) rfl
                            have g568 : s55 a 21 = s29 a 21 := (by rw [e_s55, zU_at (Or.inl (zne (zr (k := 56) (t2 := 105) hG ha rfl) ha (by decide))), e_s54, zU_at (Or.inl (zne (zr (k := 56) (t2 := 105) hG ha rfl) ha (by decide))), e_s51, zU_at (Or.inl (zne (zr (k := 56) (t2 := 105) hG ha rfl) ha (by decide))), e_s44, zU_at (Or.inl (zne (zr (k := 56) (t2 := 105) hG ha rfl) ha (by decide))), (zFr_g hF_s30 ha (by decide))])
                            have f569 := zf hS_s29 ha (k := 21) rfl
                            have g570 : s55 a 22 = s29 a 22 := (by rw [e_s55, zU_at (Or.inl (zne (zr (k := 56) (t2 := 105) hG ha rfl) ha (by decide))), e_s54, zU_at (Or.inl (zne (zr (k := 56) (t2 := 105) hG ha rfl) ha (by decide))), e_s51, zU_at (Or.inl (zne (zr (k := 56) (t2 := 105) hG ha rfl) ha (by decide))), e_s44, zU_at (Or.inl (zne (zr (k := 56) (t2 := 105) hG ha rfl) ha (by decide))), (zFr_g hF_s30 ha (by decide))])
                            have f571 := zf hS_s29 ha (k := 22) rfl
                            have g572 : s55 a 23 = s29 a 23 := (by rw [e_s55, zU_at (Or.inl (zne (zr (k := 56) (t2 := 105) hG ha rfl) ha (by decide))), e_s54, zU_at (Or.inl (zne (zr (k := 56) (t2 := 105) hG ha rfl) ha (by decide))), e_s51, zU_at (Or.inl (zne (zr (k := 56) (t2 := 105) hG ha rfl) ha (by decide))), e_s44, zU_at (Or.inl (zne (zr (k := 56) (t2 := 105) hG ha rfl) ha (by decide))), (zFr_g hF_s30 ha (by decide))])
                            have f573 := zf hS_s29 ha (k := 23) rfl
                            have g574 : s55 a 24 = s29 a 24 := (by rw [e_s55, zU_at (Or.inl (zne (zr (k := 56) (t2 := 105) hG ha rfl) ha (by decide))), e_s54, zU_at (Or.inl (zne (zr (k := 56) (t2 := 105) hG ha rfl) ha (by decide))), e_s51, zU_at (Or.inl (zne (zr (k := 56) (t2 := 105) hG ha rfl) ha (by decide))), e_s44, zU_at (Or.inl (zne (zr (k := 56) (t2 := 105) hG ha rfl) ha (by decide))), (zFr_g hF_s30 ha (by decide))])
                            have f575 := zf hS_s29 ha (k := 24) rfl
                            have g576 : s55 a 38 = s29 a 38 := (by rw [e_s55, zU_at (Or.inl (zne (zr (k := 56) (t2 := 105) hG ha rfl) ha (by decide))), e_s54, zU_at (Or.inl (zne (zr (k := 56) (t2 := 105) hG ha rfl) ha (by decide))), e_s51, zU_at (Or.inl (zne (zr (k := 56) (t2 := 105) hG ha rfl) ha (by decide))), e_s44, zU_at (Or.inl (zne (zr (k := 56) (t2 := 105) hG ha rfl) ha (by decide))), (zFr_g hF_s30 ha (by decide))])
                            have f577 := zf hS_s29 ha (k := 38) rfl
                            have g578 : zc (s55 (gP G a 27)) = zc (s30 (gP G a 27)) := by rw [e_s55, zU_ne (zne (zr (k := 56) (t2 := 105) hG ha rfl) (zr (k := 27) (t2 := 84) hG ha rfl) (by decide)), e_s54, zU_ne (zne (zr (k := 56) (t2 := 105) hG ha rfl) (zr (k := 27) (t2 := 84) hG ha rfl) (by decide)), e_s51, zU_ne (zne (zr (k := 56) (t2 := 105) hG ha rfl) (zr (k := 27) (t2 := 84) hG ha rfl) (by decide)), e_s44, zU_ne (zne (zr (k := 56) (t2 := 105) hG ha rfl) (zr (k := 27) (t2 := 84) hG ha rfl) (by decide))]
                            have g579 : s55 (gP G a 27) 488 = s30 (gP G a 27) 488 := (by rw [e_s55, zU_at (Or.inl (zne (zr (k := 56) (t2 := 105) hG ha rfl) (zr (k := 27) (t2 := 84) hG ha rfl) (by decide))), e_s54, zU_at (Or.inl (zne (zr (k := 56) (t2 := 105) hG ha rfl) (zr (k := 27) (t2 := 84) hG ha rfl) (by decide))), e_s51, zU_at (Or.inl (zne (zr (k := 56) (t2 := 105) hG ha rfl) (zr (k := 27) (t2 := 84) hG ha rfl) (by decide))), e_s44, zU_at (Or.inl (zne (zr (k := 56) (t2 := 105) hG ha rfl) (zr (k := 27) (t2 := 84) hG ha rfl) (by decide)))])
                            exact j_sub [1, 2, 3, 4, 0] [(0, .ref a), (1, .int (zI x1)), (2, .int (zI x2)), (3, .int (zI x3)), (4, .int (zI (v92 + 1)))] rfl (ih_c71_11 (v92 + 1) s55 (by omega) (by omega) hS_s55 (zFr_u (zFr_u (zFr_u (zFr_u (zFr_t (zFr_t (zFr_t (zFr_t zFr_rf hF_s12 (by decide)) hF_s28 (by decide)) hF_s29 (by decide)) hF_s30 (by decide)) e_s44 (zr (k := 56) (t2 := 105) hG ha rfl) (by decide)) e_s51 (zr (k := 56) (t2 := 105) hG ha rfl) (by decide)) e_s54 (zr (k := 56) (t2 := 105) hG ha rfl) (by decide)) e_s55 (zr (k := 56) (t2 := 105) hG ha rfl) (by decide)) (by omega) (by omega) (by omega) (by omega) (by omega) (by omega) (by omega) (by omega) (by omega) (by omega) (by omega) (by omega))
                          · skip
                            refine j_iconst hx dX12_lot_200 ?_
                            refine j_goto hx 205 dX12_lot_201 rfl ?_
                            refine j_iadd hx (r := (s12 (gP G a 56) 5)) dX12_lot_205 (by omega) ?_
                            refine j_iast hx hG (zr (k := 56) (t2 := 105) hG ha rfl) (by decide) rfl (zlen hG (zr (k := 56) (t2 := 105) hG ha rfl) (n := 6) rfl rfl) (by omega) (by omega) (j := 5) rfl dX12_lot_206 ?_
                            obtain ⟨s56, e_s56⟩ : ∃ z, z = zU s54 (gP G a 56) 5 ((s12 (gP G a 56) 5)) := ⟨_, rfl⟩
                            rw [← e_s56]
                            have hS_s56 : zSK G s56 := by rw [e_s56]; exact zSK_A hS_s54 (zr (k := 56) (t2 := 105) hG ha rfl) rfl rfl rfl (by omega)
                            refine j_iinc hx 4 [(4, .int (zI (v92 + 1))), (0, .ref a), (1, .int (zI x1)), (2, .int (zI x2)), (3, .int (zI x3))] dX12_lot_207 rfl (by omega) (by decide) rfl ?_
                            refine j_goto hx 71 dX12_lot_210 rfl ?_
                            have g580 : s56 a 0 = s29 a 0 := (by rw [e_s56, zU_at (Or.inl (zne (zr (k := 56) (t2 := 105) hG ha rfl) ha (by decide))), e_s54, zU_at (Or.inl (zne (zr (k := 56) (t2 := 105) hG ha rfl) ha (by decide))), e_s51, zU_at (Or.inl (zne (zr (k := 56) (t2 := 105) hG ha rfl) ha (by decide))), e_s44, zU_at (Or.inl (zne (zr (k := 56) (t2 := 105) hG ha rfl) ha (by decide))), (zFr_g hF_s30 ha (by decide))])
                            have f581 := zf hS_s29 ha (k := 0) rfl
                            have g582 : s56 a 3 = s29 a 3 := (by rw [e_s56, zU_at (Or.inl (zne (zr (k := 56) (t2 := 105) hG ha rfl) ha (by decide))), e_s54, zU_at (Or.inl (zne (zr (k := 56) (t2 := 105) hG ha rfl) ha (by decide))), e_s51, zU_at (Or.inl (zne (zr (k := 56) (t2 := 105) hG ha rfl) ha (by decide))), e_s44, zU_at (Or.inl (zne (zr (k := 56) (t2 := 105) hG ha rfl) ha (by decide))), (zFr_g hF_s30 ha (by decide))])
                            have f583 := zf hS_s29 ha (k := 3) rfl
                            have g584 : s56 a 4 = s29 a 4 := (by rw [e_s56, zU_at (Or.inl (zne (zr (k := 56) (t2 := 105) hG ha rfl) ha (by decide))), e_s54, zU_at (Or.inl (zne (zr (k := 56) (t2 := 105) hG ha rfl) ha (by decide))), e_s51, zU_at (Or.inl (zne (zr (k := 56) (t2 := 105) hG ha rfl) ha (by decide))), e_s44, zU_at (Or.inl (zne (zr (k := 56) (t2 := 105) hG ha rfl) ha (by decide))), (zFr_g hF_s30 ha (by decide))])
                            have f585 := zf hS_s29 ha (k := 4) rfl
                            have g586 : s56 a 5 = s29 a 5 := (by rw [e_s56, zU_at (Or.inl (zne (zr (k := 56) (t2 := 105) hG ha rfl) ha (by decide))), e_s54, zU_at (Or.inl (zne (zr (k := 56) (t2 := 105) hG ha rfl) ha (by decide))), e_s51, zU_at (Or.inl (zne (zr (k := 56) (t2 := 105) hG ha rfl) ha (by decide))), e_s44, zU_at (Or.inl (zne (zr (k := 56) (t2 := 105) hG ha rfl) ha (by decide))), (zFr_g hF_s30 ha (by decide))])
                            have f587 := zf hS_s29 ha (k := 5) rfl
                            have g588 : s56 a 7 = s29 a 7 := (by rw [e_s56, zU_at (Or.inl (zne (zr (k := 56) (t2 := 105) hG ha rfl) ha (by decide))), e_s54, zU_at (Or.inl (zne (zr (k := 56) (t2 := 105) hG ha rfl) ha (by decide))), e_s51, zU_at (Or.inl (zne (zr (k := 56) (t2 := 105) hG ha rfl) ha (by decide))), e_s44, zU_at (Or.inl (zne (zr (k := 56) (t2 := 105) hG ha rfl) ha (by decide))), (zFr_g hF_s30 ha (by decide))])
                            have f589 := zf hS_s29 ha (k := 7) rfl
                            have g590 : s56 a 21 = s29 a 21 := (by rw [e_s56, zU_at (Or.inl (zne (zr (k := 56) (t2 := 105) hG ha rfl) ha (by decide))), e_s54, zU_at (Or.inl (zne (zr (k := 56) (t2 := 105) hG ha rfl) ha (by decide))), e_s51, zU_at (Or.inl (zne (zr (k := 56) (t2 := 105) hG ha rfl) ha (by decide))), e_s44, zU_at (Or.inl (zne (zr (k := 56) (t2 := 105) hG ha rfl) ha (by decide))), (zFr_g hF_s30 ha (by decide))])
                            have f591 := zf hS_s29 ha (k := 21) rfl
                            have g592 : s56 a 22 = s29 a 22 := (by rw [e_s56, zU_at (Or.inl (zne (zr (k := 56) (t2 := 105) hG ha rfl) ha (by decide))), e_s54, zU_at (Or.inl (zne (zr (k := 56) (t2 := 105) hG ha rfl) ha (by decide))), e_s51, zU_at (Or.inl (zne (zr (k := 56) (t2 := 105) hG ha rfl) ha (by decide))), e_s44, zU_at (Or.inl (zne (zr (k := 56) (t2 := 105) hG ha rfl) ha (by decide))), (zFr_g hF_s30 ha (by decide))])
                            have f593 := zf hS_s29 ha (k := 22) rfl
                            have g594 : s56 a 23 = s29 a 23 := (by rw [e_s56, zU_at (Or.inl (zne (zr (k := 56) (t2 := 105) hG ha rfl) ha (by decide))), e_s54, zU_at (Or.inl (zne (zr (k := 56) (t2 := 105) hG ha rfl) ha (by decide))), e_s51, zU_at (Or.inl (zne (zr (k := 56) (t2 := 105) hG ha rfl) ha (by decide))), e_s44, zU_at (Or.inl (zne (zr (k := 56) (t2 := 105) hG ha rfl) ha (by decide))), (zFr_g hF_s30 ha (by decide))])
                            have f595 := zf hS_s29 ha (k := 23) rfl
                            have g596 : s56 a 24 = s29 a 24 := (by rw [e_s56, zU_at (Or.inl (zne (zr (k := 56) (t2 := 105) hG ha rfl) ha (by decide))), e_s54, zU_at (Or.inl (zne (zr (k := 56) (t2 := 105) hG ha rfl) ha (by decide))), e_s51, zU_at (Or.inl (zne (zr (k := 56) (t2 := 105) hG ha rfl) ha (by decide))), e_s44, zU_at (Or.inl (zne (zr (k := 56) (t2 := 105) hG ha rfl) ha (by decide))), (zFr_g hF_s30 ha (by decide))])
                            have f597 := zf hS_s29 ha (k := 24) rfl
                            have g598 : s56 a 38 = s29 a 38 := (by rw [e_s56, zU_at (Or.inl (zne (zr (k := 56) (t2 := 105) hG ha rfl) ha (by decide))), e_s54, zU_at (Or.inl (zne (zr (k := 56) (t2 := 105) hG ha rfl) ha (by decide))), e_s51, zU_at (Or.inl (zne (zr (k := 56) (t2 := 105) hG ha rfl) ha (by decide))), e_s44, zU_at (Or.inl (zne (zr (k := 56) (t2 := 105) hG ha rfl) ha (by decide))), (zFr_g hF_s30 ha (by decide))])
                            have f599 := zf hS_s29 ha (k := 38) rfl
                            have g600 : zc (s56 (gP G a 27)) = zc (s30 (gP G a 27)) := by rw [e_s56, zU_ne (zne (zr (k := 56) (t2 := 105) hG ha rfl) (zr (k := 27) (t2 := 84) hG ha rfl) (by decide)), e_s54, zU_ne (zne (zr (k := 56) (t2 := 105) hG ha rfl) (zr (k := 27) (t2 := 84) hG ha rfl) (by decide)), e_s51, zU_ne (zne (zr (k := 56) (t2 := 105) hG ha rfl) (zr (k := 27) (t2 := 84) hG ha rfl) (by decide)), e_s44, zU_ne (zne (zr (k := 56) (t2 := 105) hG ha rfl) (zr (k := 27) (t2 := 84) hG ha rfl) (by decide))]
                            have g601 : s56 (gP G a 27) 488 = s30 (gP G a 27) 488 := (by rw [e_s56, zU_at (Or.inl (zne (zr (k := 56) (t2 := 105) hG ha rfl) (zr (k := 27) (t2 := 84) hG ha rfl) (by decide))), e_s54, zU_at (Or.inl (zne (zr (k := 56) (t2 := 105) hG ha rfl) (zr (k := 27) (t2 := 84) hG ha rfl) (by decide))), e_s51, zU_at (Or.inl (zne (zr (k := 56) (t2 := 105) hG ha rfl) (zr (k := 27) (t2 := 84) hG ha rfl) (by decide))), e_s44, zU_at (Or.inl (zne (zr (k := 56) (t2 := 105) hG ha rfl) (zr (k := 27) (t2 := 84) hG ha rfl) (by decide)))])
                            exact j_sub [1, 2, 3, 4, 0] [(0, .ref a), (1, .int (zI x1)), (2, .int (zI x2)), (3, .int (zI x3)), (4, .int (zI (v92 + 1)))] rfl (ih_c71_11 (v92 + 1) s56 (by omega) (by omega) hS_s56 (zFr_u (zFr_u (zFr_u (zFr_u (zFr_t (zFr_t (zFr_t (zFr_t zFr_rf hF_s12 (by decide)) hF_s28 (by decide)) hF_s29 (by decide)) hF_s30 (by decide)) e_s44 (zr (k := 56) (t2 := 105) hG ha rfl) (by decide)) e_s51 (zr (k := 56) (t2 := 105) hG ha rfl) (by decide)) e_s54 (zr (k := 56) (t2 := 105) hG ha rfl) (by decide)) e_s56 (zr (k := 56) (t2 := 105) hG ha rfl) (by decide)) (by omega) (by omega) (by omega) (by omega) (by omega) (by omega) (by omega) (by omega) (by omega) (by omega) (by omega) (by omega))
                    · skip
                      refine j_aload_n hx 0 dX12_lot_116 rfl ?_
                      refine g13_52 hx hG ha kf_RX12_429 (v := (s29 a 52)) (by rw [(zFr_g hF_s30 ha (by decide))]) dX12_lot_117 ?_
                      refine j_goto hx 129 dX12_lot_120 rfl ?_
                      refine j_iast hx hG (zr (k := 56) (t2 := 105) hG ha rfl) (by decide) rfl (zlen hG (zr (k := 56) (t2 := 105) hG ha rfl) (n := 6) rfl rfl) (by omega) (by omega) (j := 0) rfl dX12_lot_129 ?_
                      obtain ⟨s57, e_s57⟩ : ∃ z, z = zU s30 (gP G a 56) 0 ((s29 a 52)) := ⟨_, rfl⟩
                      rw [← e_s57]
                      have hS_s57 : zSK G s57 := by rw [e_s57]; exact zSK_A hS_s30 (zr (k := 56) (t2 := 105) hG ha rfl) rfl rfl rfl (by omega)
                      refine j_aload_n hx 0 dX12_lot_130 rfl ?_
                      refine g13_56 hx hG ha kf_RX12_121 dX12_lot_131 ?_
                      refine j_iconst hx dX12_lot_134 ?_
                      refine j_aload_n hx 0 dX12_lot_135 rfl ?_
                      refine g13_52 hx hG ha kf_RX12_429 (v := (s29 a 52)) (by rw [e_s57, zU_at (Or.inl (zne (zr (k := 56) (t2 := 105) hG ha rfl) ha (by decide))), (zFr_g hF_s30 ha (by decide))]) dX12_lot_136 ?_
                      refine j_aload_n hx 0 dX12_lot_139 rfl ?_
                      refine g13_56 hx hG ha kf_RX12_121 dX12_lot_140 ?_
                      refine j_iconst hx dX12_lot_143 ?_
                      have f602 := zaI (j := 1) hS_s12 (zr (k := 56) (t2 := 105) hG ha rfl) rfl (zlen hG (zr (k := 56) (t2 := 105) hG ha rfl) (n := 6) rfl rfl) (show 0 ≤ 1 by omega) (by omega) rfl
                      refine j_iald hx hG (zr (k := 56) (t2 := 105) hG ha rfl) (by decide) rfl (zlen hG (zr (k := 56) (t2 := 105) hG ha rfl) (n := 6) rfl rfl) (by omega) (by omega) (j := 1) rfl (v := (s12 (gP G a 56) 1)) (by rw [e_s57, zU_at (Or.inr (by decide)), (zFr_g hF_s30 (zr (k := 56) (t2 := 105) hG ha rfl) (by decide)), (zFr_g hF_s29 (zr (k := 56) (t2 := 105) hG ha rfl) (by decide)), (zFr_g hF_s28 (zr (k := 56) (t2 := 105) hG ha rfl) (by decide))]) dX12_lot_144 ?_
                      refine j_icmp_le hx 155 dX12_lot_145 rfl (by omega) (by omega) (fun h603 => ?_) (fun h603 => ?_)
                      · skip
                        refine j_aload_n hx 0 dX12_lot_155 rfl ?_
                        refine g13_56 hx hG ha kf_RX12_121 dX12_lot_156 ?_
                        refine j_iconst hx dX12_lot_159 ?_
                        refine j_iald hx hG (zr (k := 56) (t2 := 105) hG ha rfl) (by decide) rfl (zlen hG (zr (k := 56) (t2 := 105) hG ha rfl) (n := 6) rfl rfl) (by omega) (by omega) (j := 1) rfl (v := (s12 (gP G a 56) 1)) (by rw [e_s57, zU_at (Or.inr (by decide)), (zFr_g hF_s30 (zr (k := 56) (t2 := 105) hG ha rfl) (by decide)), (zFr_g hF_s29 (zr (k := 56) (t2 := 105) hG ha rfl) (by decide)), (zFr_g hF_s28 (zr (k := 56) (t2 := 105) hG ha rfl) (by decide))]) dX12_lot_160 ?_
                        refine j_iast hx hG (zr (k := 56) (t2 := 105) hG ha rfl) (by decide) rfl (zlen hG (zr (k := 56) (t2 := 105) hG ha rfl) (n := 6) rfl rfl) (by omega) (by omega) (j := 1) rfl dX12_lot_161 ?_
                        obtain ⟨s58, e_s58⟩ : ∃ z, z = zU s57 (gP G a 56) 1 ((s12 (gP G a 56) 1)) := ⟨_, rfl⟩
                        rw [← e_s58]
                        have hS_s58 : zSK G s58 := by rw [e_s58]; exact zSK_A hS_s57 (zr (k := 56) (t2 := 105) hG ha rfl) rfl rfl rfl (by omega)
                        refine j_aload_n hx 0 dX12_lot_162 rfl ?_
                        have f604 := zf hS_s29 ha (k := 54) rfl
                        refine g13_54 hx hG ha kf_RX12_441 (v := (s29 a 54)) (by rw [e_s58, zU_at (Or.inl (zne (zr (k := 56) (t2 := 105) hG ha rfl) ha (by decide))), e_s57, zU_at (Or.inl (zne (zr (k := 56) (t2 := 105) hG ha rfl) ha (by decide))), (zFr_g hF_s30 ha (by decide))]) dX12_lot_163 ?_
                        refine j_iconst hx dX12_lot_166 ?_
                        refine j_icmp_eq hx 185 dX12_lot_167 rfl (by omega) ⟨by decide, by decide⟩ (fun h605 => ?_) (fun h605 => ?_)
                        · skip
                          refine j_aload_n hx 0 dX12_lot_185 rfl ?_
                          refine g13_56 hx hG ha kf_RX12_121 dX12_lot_186 ?_
                          refine j_iconst hx dX12_lot_189 ?_
                          refine j_dup2 hx dX12_lot_190 rfl rfl ?_
                          have f606 := zaI (j := 5) hS_s12 (zr (k := 56) (t2 := 105) hG ha rfl) rfl (zlen hG (zr (k := 56) (t2 := 105) hG ha rfl) (n := 6) rfl rfl) (show 0 ≤ 5 by omega) (by omega) rfl
                          refine j_iald hx hG (zr (k := 56) (t2 := 105) hG ha rfl) (by decide) rfl (zlen hG (zr (k := 56) (t2 := 105) hG ha rfl) (n := 6) rfl rfl) (by omega) (by omega) (j := 5) rfl (v := (s12 (gP G a 56) 5)) (by rw [e_s58, zU_at (Or.inr (by decide)), e_s57, zU_at (Or.inr (by decide)), (zFr_g hF_s30 (zr (k := 56) (t2 := 105) hG ha rfl) (by decide)), (zFr_g hF_s29 (zr (k := 56) (t2 := 105) hG ha rfl) (by decide)), (zFr_g hF_s28 (zr (k := 56) (t2 := 105) hG ha rfl) (by decide))]) dX12_lot_191 ?_
                          refine j_aload_n hx 0 dX12_lot_192 rfl ?_
                          have f607 := zf hS_s29 ha (k := 51) rfl
                          refine g13_51 hx hG ha kf_RX12_432 (v := (s29 a 51)) (by rw [e_s58, zU_at (Or.inl (zne (zr (k := 56) (t2 := 105) hG ha rfl) ha (by decide))), e_s57, zU_at (Or.inl (zne (zr (k := 56) (t2 := 105) hG ha rfl) ha (by decide))), (zFr_g hF_s30 ha (by decide))]) dX12_lot_193 ?_
                          refine j_iconst hx dX12_lot_196 ?_
                          refine j_icmp_ne hx 204 dX12_lot_197 rfl (by omega) ⟨by decide, by decide⟩ (fun h608 => ?_) (fun h608 => ?_)
                          · skip
                            refine j_iconst hx dX12_lot_204 ?_
                            refine j_iadd hx (r := (s12 (gP G a 56) 5) + 1) dX12_lot_205 (by omega) ?_
                            refine j_norm (fun v609 f610 f611 f612 => ?_)
                            refine j_iast hx hG (zr (k := 56) (t2 := 105) hG ha rfl) (by decide) rfl (zlen hG (zr (k := 56) (t2 := 105) hG ha rfl) (n := 6) rfl rfl) (by omega) (by omega) (j := 5) rfl dX12_lot_206 ?_
                            obtain ⟨s59, e_s59⟩ : ∃ z, z = zU s58 (gP G a 56) 5 v609 := ⟨_, rfl⟩
                            rw [← e_s59]
                            have hS_s59 : zSK G s59 := by rw [e_s59]; exact zSK_A hS_s58 (zr (k := 56) (t2 := 105) hG ha rfl) rfl rfl rfl (by omega)
                            refine j_iinc hx 4 [(4, .int (zI (v92 + 1))), (0, .ref a), (1, .int (zI x1)), (2, .int (zI x2)), (3, .int (zI x3))] dX12_lot_207 rfl (by omega) (by decide) rfl ?_
                            refine j_goto hx 71 dX12_lot_210 rfl ?_
                            have g613 : s59 a 0 = s29 a 0 := (by rw [e_s59, zU_at (Or.inl (zne (zr (k := 56) (t2 := 105) hG ha rfl) ha (by decide))), e_s58, zU_at (Or.inl (zne (zr (k := 56) (t2 := 105) hG ha rfl) ha (by decide))), e_s57, zU_at (Or.inl (zne (zr (k := 56) (t2 := 105) hG ha rfl) ha (by decide))), (zFr_g hF_s30 ha (by decide))])
                            have f614 := zf hS_s29 ha (k := 0) rfl
                            have g615 : s59 a 3 = s29 a 3 := (by rw [e_s59, zU_at (Or.inl (zne (zr (k := 56) (t2 := 105) hG ha rfl) ha (by decide))), e_s58, zU_at (Or.inl (zne (zr (k := 56) (t2 := 105) hG ha rfl) ha (by decide))), e_s57, zU_at (Or.inl (zne (zr (k := 56) (t2 := 105) hG ha rfl) ha (by decide))), (zFr_g hF_s30 ha (by decide))])
                            have f616 := zf hS_s29 ha (k := 3) rfl
                            have g617 : s59 a 4 = s29 a 4 := (by rw [e_s59, zU_at (Or.inl (zne (zr (k := 56) (t2 := 105) hG ha rfl) ha (by decide))), e_s58, zU_at (Or.inl (zne (zr (k := 56) (t2 := 105) hG ha rfl) ha (by decide))), e_s57, zU_at (Or.inl (zne (zr (k := 56) (t2 := 105) hG ha rfl) ha (by decide))), (zFr_g hF_s30 ha (by decide))])
                            have f618 := zf hS_s29 ha (k := 4) rfl
                            have g619 : s59 a 5 = s29 a 5 := (by rw [e_s59, zU_at (Or.inl (zne (zr (k := 56) (t2 := 105) hG ha rfl) ha (by decide))), e_s58, zU_at (Or.inl (zne (zr (k := 56) (t2 := 105) hG ha rfl) ha (by decide))), e_s57, zU_at (Or.inl (zne (zr (k := 56) (t2 := 105) hG ha rfl) ha (by decide))), (zFr_g hF_s30 ha (by decide))])
                            have f620 := zf hS_s29 ha (k := 5) rfl
                            have g621 : s59 a 7 = s29 a 7 := (by rw [e_s59, zU_at (Or.inl (zne (zr (k := 56) (t2 := 105) hG ha rfl) ha (by decide))), e_s58, zU_at (Or.inl (zne (zr (k := 56) (t2 := 105) hG ha rfl) ha (by decide))), e_s57, zU_at (Or.inl (zne (zr (k := 56) (t2 := 105) hG ha rfl) ha (by decide))), (zFr_g hF_s30 ha (by decide))])
                            have f622 := zf hS_s29 ha (k := 7) rfl
                            have g623 : s59 a 21 = s29 a 21 := (by rw [e_s59, zU_at (Or.inl (zne (zr (k := 56) (t2 := 105) hG ha rfl) ha (by decide))), e_s58, zU_at (Or.inl (zne (zr (k := 56) (t2 := 105) hG ha rfl) ha (by decide))), e_s57, zU_at (Or.inl (zne (zr (k := 56) (t2 := 105) hG ha rfl) ha (by decide))), (zFr_g hF_s30 ha (by decide))])
                            have f624 := zf hS_s29 ha (k := 21) rfl
                            have g625 : s59 a 22 = s29 a 22 := (by rw [e_s59, zU_at (Or.inl (zne (zr (k := 56) (t2 := 105) hG ha rfl) ha (by decide))), e_s58, zU_at (Or.inl (zne (zr (k := 56) (t2 := 105) hG ha rfl) ha (by decide))), e_s57, zU_at (Or.inl (zne (zr (k := 56) (t2 := 105) hG ha rfl) ha (by decide))), (zFr_g hF_s30 ha (by decide))])
                            have f626 := zf hS_s29 ha (k := 22) rfl
                            have g627 : s59 a 23 = s29 a 23 := (by rw [e_s59, zU_at (Or.inl (zne (zr (k := 56) (t2 := 105) hG ha rfl) ha (by decide))), e_s58, zU_at (Or.inl (zne (zr (k := 56) (t2 := 105) hG ha rfl) ha (by decide))), e_s57, zU_at (Or.inl (zne (zr (k := 56) (t2 := 105) hG ha rfl) ha (by decide))), (zFr_g hF_s30 ha (by decide))])
                            have f628 := zf hS_s29 ha (k := 23) rfl
                            have g629 : s59 a 24 = s29 a 24 := (by rw [e_s59, zU_at (Or.inl (zne (zr (k := 56) (t2 := 105) hG ha rfl) ha (by decide))), e_s58, zU_at (Or.inl (zne (zr (k := 56) (t2 := 105) hG ha rfl) ha (by decide))), e_s57, zU_at (Or.inl (zne (zr (k := 56) (t2 := 105) hG ha rfl) ha (by decide))), (zFr_g hF_s30 ha (by decide))])
                            have f630 := zf hS_s29 ha (k := 24) rfl
                            have g631 : s59 a 38 = s29 a 38 := (by rw [e_s59, zU_at (Or.inl (zne (zr (k := 56) (t2 := 105) hG ha rfl) ha (by decide))), e_s58, zU_at (Or.inl (zne (zr (k := 56) (t2 := 105) hG ha rfl) ha (by decide))), e_s57, zU_at (Or.inl (zne (zr (k := 56) (t2 := 105) hG ha rfl) ha (by decide))), (zFr_g hF_s30 ha (by decide))])
                            have f632 := zf hS_s29 ha (k := 38) rfl
                            have g633 : zc (s59 (gP G a 27)) = zc (s30 (gP G a 27)) := by rw [e_s59, zU_ne (zne (zr (k := 56) (t2 := 105) hG ha rfl) (zr (k := 27) (t2 := 84) hG ha rfl) (by decide)), e_s58, zU_ne (zne (zr (k := 56) (t2 := 105) hG ha rfl) (zr (k := 27) (t2 := 84) hG ha rfl) (by decide)), e_s57, zU_ne (zne (zr (k := 56) (t2 := 105) hG ha rfl) (zr (k := 27) (t2 := 84) hG ha rfl) (by decide))]
                            have g634 : s59 (gP G a 27) 488 = s30 (gP G a 27) 488 := (by rw [e_s59, zU_at (Or.inl (zne (zr (k := 56) (t2 := 105) hG ha rfl) (zr (k := 27) (t2 := 84) hG ha rfl) (by decide))), e_s58, zU_at (Or.inl (zne (zr (k := 56) (t2 := 105) hG ha rfl) (zr (k := 27) (t2 := 84) hG ha rfl) (by decide))), e_s57, zU_at (Or.inl (zne (zr (k := 56) (t2 := 105) hG ha rfl) (zr (k := 27) (t2 := 84) hG ha rfl) (by decide)))])
                            exact j_sub [1, 2, 3, 4, 0] [(0, .ref a), (1, .int (zI x1)), (2, .int (zI x2)), (3, .int (zI x3)), (4, .int (zI (v92 + 1)))] rfl (ih_c71_11 (v92 + 1) s59 (by omega) (by omega) hS_s59 (zFr_u (zFr_u (zFr_u (zFr_t (zFr_t (zFr_t (zFr_t zFr_rf hF_s12 (by decide)) hF_s28 (by decide)) hF_s29 (by decide)) hF_s30 (by decide)) e_s57 (zr (k := 56) (t2 := 105) hG ha rfl) (by decide)) e_s58 (zr (k := 56) (t2 := 105) hG ha rfl) (by decide)) e_s59 (zr (k := 56) (t2 := 105) hG ha rfl) (by decide)) (by omega) (by omega) (by omega) (by omega) (by omega) (by omega) (by omega) (by omega) (by omega) (by omega) (by omega) (by omega))
                          · skip
                            refine j_iconst hx dX12_lot_200 ?_
                            refine j_goto hx 205 dX12_lot_201 rfl ?_
                            refine j_iadd hx (r := (s12 (gP G a 56) 5)) dX12_lot_205 (by omega) ?_
                            refine j_iast hx hG (zr (k := 56) (t2 := 105) hG ha rfl) (by decide) rfl (zlen hG (zr (k := 56) (t2 := 105) hG ha rfl) (n := 6) rfl rfl) (by omega) (by omega) (j := 5) rfl dX12_lot_206 ?_
                            obtain ⟨s60, e_s60⟩ : ∃ z, z = zU s58 (gP G a 56) 5 ((s12 (gP G a 56) 5)) := ⟨_, rfl⟩
                            rw [← e_s60]
                            have hS_s60 : zSK G s60 := by rw [e_s60]; exact zSK_A hS_s58 (zr (k := 56) (t2 := 105) hG ha rfl) rfl rfl rfl (by omega)
                            refine j_iinc hx 4 [(4, .int (zI (v92 + 1))), (0, .ref a), (1, .int (zI x1)), (2, .int (zI x2)), (3, .int (zI x3))] dX12_lot_207 rfl (by omega) (by decide) rfl ?_
                            refine j_goto hx 71 dX12_lot_210 rfl ?_
                            have g635 : s60 a 0 = s29 a 0 := (by rw [e_s60, zU_at (Or.inl (zne (zr (k := 56) (t2 := 105) hG ha rfl) ha (by decide))), e_s58, zU_at (Or.inl (zne (zr (k := 56) (t2 := 105) hG ha rfl) ha (by decide))), e_s57, zU_at (Or.inl (zne (zr (k := 56) (t2 := 105) hG ha rfl) ha (by decide))), (zFr_g hF_s30 ha (by decide))])
                            have f636 := zf hS_s29 ha (k := 0) rfl
                            have g637 : s60 a 3 = s29 a 3 := (by rw [e_s60, zU_at (Or.inl (zne (zr (k := 56) (t2 := 105) hG ha rfl) ha (by decide))), e_s58, zU_at (Or.inl (zne (zr (k := 56) (t2 := 105) hG ha rfl) ha (by decide))), e_s57, zU_at (Or.inl (zne (zr (k := 56) (t2 := 105) hG ha rfl) ha (by decide))), (zFr_g hF_s30 ha (by decide))])
                            have f638 := zf hS_s29 ha (k := 3) rfl
                            have g639 : s60 a 4 = s29 a 4 := (by rw [e_s60, zU_at (Or.inl (zne (zr (k := 56) (t2 := 105) hG ha rfl) ha (by decide))), e_s58, zU_at (Or.inl (zne (zr (k := 56) (t2 := 105) hG ha rfl) ha (by decide))), e_s57, zU_at (Or.inl (zne (zr (k := 56) (t2 := 105) hG ha rfl) ha (by decide))), (zFr_g hF_s30 ha (by decide))])
                            have f640 := zf hS_s29 ha (k := 4) rfl
                            have g641 : s60 a 5 = s29 a 5 := (by rw [e_s60, zU_at (Or.inl (zne (zr (k := 56) (t2 := 105) hG ha rfl) ha (by decide))), e_s58, zU_at (Or.inl (zne (zr (k := 56) (t2 := 105) hG ha rfl) ha (by decide))), e_s57, zU_at (Or.inl (zne (zr (k := 56) (t2 := 105) hG ha rfl) ha (by decide))), (zFr_g hF_s30 ha (by decide))])
                            have f642 := zf hS_s29 ha (k := 5) rfl
                            have g643 : s60 a 7 = s29 a 7 := (by rw [e_s60, zU_at (Or.inl (zne (zr (k := 56) (t2 := 105) hG ha rfl) ha (by decide))), e_s58, zU_at (Or.inl (zne (zr (k := 56) (t2 := 105) hG ha rfl) ha (by decide))), e_s57, zU_at (Or.inl (zne (zr (k := 56) (t2 := 105) hG ha rfl) ha (by decide))), (zFr_g hF_s30 ha (by decide))])
                            have f644 := zf hS_s29 ha (k := 7) rfl
                            have g645 : s60 a 21 = s29 a 21 := (by rw [e_s60, zU_at (Or.inl (zne (zr (k := 56) (t2 := 105) hG ha rfl) ha (by decide))), e_s58, zU_at (Or.inl (zne (zr (k := 56) (t2 := 105) hG ha rfl) ha (by decide))), e_s57, zU_at (Or.inl (zne (zr (k := 56) (t2 := 105) hG ha rfl) ha (by decide))), (zFr_g hF_s30 ha (by decide))])
                            have f646 := zf hS_s29 ha (k := 21) rfl
                            have g647 : s60 a 22 = s29 a 22 := (by rw [e_s60, zU_at (Or.inl (zne (zr (k := 56) (t2 := 105) hG ha rfl) ha (by decide))), e_s58, zU_at (Or.inl (zne (zr (k := 56) (t2 := 105) hG ha rfl) ha (by decide))), e_s57, zU_at (Or.inl (zne (zr (k := 56) (t2 := 105) hG ha rfl) ha (by decide))), (zFr_g hF_s30 ha (by decide))])
                            have f648 := zf hS_s29 ha (k := 22) rfl
                            have g649 : s60 a 23 = s29 a 23 := (by rw [e_s60, zU_at (Or.inl (zne (zr (k := 56) (t2 := 105) hG ha rfl) ha (by decide))), e_s58, zU_at (Or.inl (zne (zr (k := 56) (t2 := 105) hG ha rfl) ha (by decide))), e_s57, zU_at (Or.inl (zne (zr (k := 56) (t2 := 105) hG ha rfl) ha (by decide))), (zFr_g hF_s30 ha (by decide))])
                            have f650 := zf hS_s29 ha (k := 23) rfl
                            have g651 : s60 a 24 = s29 a 24 := (by rw [e_s60, zU_at (Or.inl (zne (zr (k := 56) (t2 := 105) hG ha rfl) ha (by decide))), e_s58, zU_at (Or.inl (zne (zr (k := 56) (t2 := 105) hG ha rfl) ha (by decide))), e_s57, zU_at (Or.inl (zne (zr (k := 56) (t2 := 105) hG ha rfl) ha (by decide))), (zFr_g hF_s30 ha (by decide))])
                            have f652 := zf hS_s29 ha (k := 24) rfl
                            have g653 : s60 a 38 = s29 a 38 := (by rw [e_s60, zU_at (Or.inl (zne (zr (k := 56) (t2 := 105) hG ha rfl) ha (by decide))), e_s58, zU_at (Or.inl (zne (zr (k := 56) (t2 := 105) hG ha rfl) ha (by decide))), e_s57, zU_at (Or.inl (zne (zr (k := 56) (t2 := 105) hG ha rfl) ha (by decide))), (zFr_g hF_s30 ha (by decide))])
                            have f654 := zf hS_s29 ha (k := 38) rfl
                            have g655 : zc (s60 (gP G a 27)) = zc (s30 (gP G a 27)) := by rw [e_s60, zU_ne (zne (zr (k := 56) (t2 := 105) hG ha rfl) (zr (k := 27) (t2 := 84) hG ha rfl) (by decide)), e_s58, zU_ne (zne (zr (k := 56) (t2 := 105) hG ha rfl) (zr (k := 27) (t2 := 84) hG ha rfl) (by decide)), e_s57, zU_ne (zne (zr (k := 56) (t2 := 105) hG ha rfl) (zr (k := 27) (t2 := 84) hG ha rfl) (by decide))]
                            have g656 : s60 (gP G a 27) 488 = s30 (gP G a 27) 488 := (by rw [e_s60, zU_at (Or.inl (zne (zr (k := 56) (t2 := 105) hG ha rfl) (zr (k := 27) (t2 := 84) hG ha rfl) (by decide))), e_s58, zU_at (Or.inl (zne (zr (k := 56) (t2 := 105) hG ha rfl) (zr (k := 27) (t2 := 84) hG ha rfl) (by decide))), e_s57, zU_at (Or.inl (zne (zr (k := 56) (t2 := 105) hG ha rfl) (zr (k := 27) (t2 := 84) hG ha rfl) (by decide)))])
                            exact j_sub [1, 2, 3, 4, 0] [(0, .ref a), (1, .int (zI x1)), (2, .int (zI x2)), (3, .int (zI x3)), (4, .int (zI (v92 + 1)))] rfl (ih_c71_11 (v92 + 1) s60 (by omega) (by omega) hS_s60 (zFr_u (zFr_u (zFr_u (zFr_t (zFr_t (zFr_t (zFr_t zFr_rf hF_s12 (by decide)) hF_s28 (by decide)) hF_s29 (by decide)) hF_s30 (by decide)) e_s57 (zr (k := 56) (t2 := 105) hG ha rfl) (by decide)) e_s58 (zr (k := 56) (t2 := 105) hG ha rfl) (by decide)) e_s60 (zr (k := 56) (t2 := 105) hG ha rfl) (by decide)) (by omega) (by omega) (by omega) (by omega) (by omega) (by omega) (by omega) (by omega) (by omega) (by omega) (by omega) (by omega))
                        · skip
                          refine j_aload_n hx 0 dX12_lot_170 rfl ?_
                          refine g13_56 hx hG ha kf_RX12_121 dX12_lot_171 ?_
                          refine j_iconst hx dX12_lot_174 ?_
                          refine j_aload_n hx 0 dX12_lot_175 rfl ?_
                          refine g13_54 hx hG ha kf_RX12_441 (v := (s29 a 54)) (by rw [e_s58, zU_at (Or.inl (zne (zr (k := 56) (t2 := 105) hG ha rfl) ha (by decide))), e_s57, zU_at (Or.inl (zne (zr (k := 56) (t2 := 105) hG ha rfl) ha (by decide))), (zFr_g hF_s30 ha (by decide))]) dX12_lot_176 ?_
                          refine j_iadd hx (r := (s29 a 54) + 2) dX12_lot_179 (by omega) ?_
                          refine j_dup2 hx dX12_lot_180 rfl rfl ?_
                          have f657 := zaI (j := ((s29 a 54) + 2).toNat) hS_s12 (zr (k := 56) (t2 := 105) hG ha rfl) rfl (zlen hG (zr (k := 56) (t2 := 105) hG ha rfl) (n := 6) rfl rfl) (show 0 ≤ (s29 a 54) + 2 by omega) (by omega) rfl
                          refine j_iald hx hG (zr (k := 56) (t2 := 105) hG ha rfl) (by decide) rfl (zlen hG (zr (k := 56) (t2 := 105) hG ha rfl) (n := 6) rfl rfl) (by omega) (by omega) (j := ((s29 a 54) + 2).toNat) rfl (v := (s12 (gP G a 56) ((s29 a 54) + 2).toNat)) (by rw [e_s58, zU_at (Or.inr (by omega)), e_s57, zU_at (Or.inr (by omega)), (zFr_g hF_s30 (zr (k := 56) (t2 := 105) hG ha rfl) (by decide)), (zFr_g hF_s29 (zr (k := 56) (t2 := 105) hG ha rfl) (by decide)), (zFr_g hF_s28 (zr (k := 56) (t2 := 105) hG ha rfl) (by decide))]) dX12_lot_181 ?_
                          refine j_iconst hx dX12_lot_182 ?_
                          refine j_iadd hx (r := (s12 (gP G a 56) ((s29 a 54) + 2).toNat) + 1) dX12_lot_183 (by omega) ?_
                          refine j_norm (fun v658 f659 f660 f661 => ?_)
                          refine j_iast hx hG (zr (k := 56) (t2 := 105) hG ha rfl) (by decide) rfl (zlen hG (zr (k := 56) (t2 := 105) hG ha rfl) (n := 6) rfl rfl) (by omega) (by omega) (j := ((s29 a 54) + 2).toNat) rfl dX12_lot_184 ?_
                          obtain ⟨s61, e_s61⟩ : ∃ z, z = zU s58 (gP G a 56) ((s29 a 54) + 2).toNat v658 := ⟨_, rfl⟩
                          rw [← e_s61]
                          have hS_s61 : zSK G s61 := by rw [e_s61]; exact zSK_A hS_s58 (zr (k := 56) (t2 := 105) hG ha rfl) rfl rfl rfl (by omega)
                          refine j_aload_n hx 0 dX12_lot_185 rfl ?_
                          refine g13_56 hx hG ha kf_RX12_121 dX12_lot_186 ?_
                          refine j_iconst hx dX12_lot_189 ?_
                          refine j_dup2 hx dX12_lot_190 rfl rfl ?_
                          have f662 := zaI (j := 5) hS_s12 (zr (k := 56) (t2 := 105) hG ha rfl) rfl (zlen hG (zr (k := 56) (t2 := 105) hG ha rfl) (n := 6) rfl rfl) (show 0 ≤ 5 by omega) (by omega) rfl
                          refine j_iald hx hG (zr (k := 56) (t2 := 105) hG ha rfl) (by decide) rfl (zlen hG (zr (k := 56) (t2 := 105) hG ha rfl) (n := 6) rfl rfl) (by omega) (by omega) (j := 5) rfl (v := (s12 (gP G a 56) 5)) (by rw [e_s61, zU_at (Or.inr (by omega)), e_s58, zU_at (Or.inr (by decide)), e_s57, zU_at (Or.inr (by decide)), (zFr_g hF_s30 (zr (k := 56) (t2 := 105) hG ha rfl) (by decide)), (zFr_g hF_s29 (zr (k := 56) (t2 := 105) hG ha rfl) (by decide)), (zFr_g hF_s28 (zr (k := 56) (t2 := 105) hG ha rfl) (by decide))]) dX12_lot_191 ?_
                          refine j_aload_n hx 0 dX12_lot_192 rfl ?_
                          have f663 := zf hS_s29 ha (k := 51) rfl
                          refine g13_51 hx hG ha kf_RX12_432 (v := (s29 a 51)) (by rw [e_s61, zU_at (Or.inl (zne (zr (k := 56) (t2 := 105) hG ha rfl) ha (by decide))), e_s58, zU_at (Or.inl (zne (zr (k := 56) (t2 := 105) hG ha rfl) ha (by decide))), e_s57, zU_at (Or.inl (zne (zr (k := 56) (t2 := 105) hG ha rfl) ha (by decide))), (zFr_g hF_s30 ha (by decide))]) dX12_lot_193 ?_
                          refine j_iconst hx dX12_lot_196 ?_
                          refine j_icmp_ne hx 204 dX12_lot_197 rfl (by omega) ⟨by decide, by decide⟩ (fun h664 => ?_) (fun h664 => ?_)
                          · skip
                            refine j_iconst hx dX12_lot_204 ?_
                            refine j_iadd hx (r := (s12 (gP G a 56) 5) + 1) dX12_lot_205 (by omega) ?_
                            refine j_norm (fun v665 f666 f667 f668 => ?_)
                            refine j_iast hx hG (zr (k := 56) (t2 := 105) hG ha rfl) (by decide) rfl (zlen hG (zr (k := 56) (t2 := 105) hG ha rfl) (n := 6) rfl rfl) (by omega) (by omega) (j := 5) rfl dX12_lot_206 ?_
                            obtain ⟨s62, e_s62⟩ : ∃ z, z = zU s61 (gP G a 56) 5 v665 := ⟨_, rfl⟩
                            rw [← e_s62]
                            have hS_s62 : zSK G s62 := by rw [e_s62]; exact zSK_A hS_s61 (zr (k := 56) (t2 := 105) hG ha rfl) rfl rfl rfl (by omega)
                            refine j_iinc hx 4 [(4, .int (zI (v92 + 1))), (0, .ref a), (1, .int (zI x1)), (2, .int (zI x2)), (3, .int (zI x3))] dX12_lot_207 rfl (by omega) (by decide) rfl ?_
                            refine j_goto hx 71 dX12_lot_210 rfl ?_
                            have g669 : s62 a 0 = s29 a 0 := (by rw [e_s62, zU_at (Or.inl (zne (zr (k := 56) (t2 := 105) hG ha rfl) ha (by decide))), e_s61, zU_at (Or.inl (zne (zr (k := 56) (t2 := 105) hG ha rfl) ha (by decide))), e_s58, zU_at (Or.inl (zne (zr (k := 56) (t2 := 105) hG ha rfl) ha (by decide))), e_s57, zU_at (Or.inl (zne (zr (k := 56) (t2 := 105) hG ha rfl) ha (by decide))), (zFr_g hF_s30 ha (by decide))])
                            have f670 := zf hS_s29 ha (k := 0) rfl
                            have g671 : s62 a 3 = s29 a 3 := (by rw [e_s62, zU_at (Or.inl (zne (zr (k := 56) (t2 := 105) hG ha rfl) ha (by decide))), e_s61, zU_at (Or.inl (zne (zr (k := 56) (t2 := 105) hG ha rfl) ha (by decide))), e_s58, zU_at (Or.inl (zne (zr (k := 56) (t2 := 105) hG ha rfl) ha (by decide))), e_s57, zU_at (Or.inl (zne (zr (k := 56) (t2 := 105) hG ha rfl) ha (by decide))), (zFr_g hF_s30 ha (by decide))])
                            have f672 := zf hS_s29 ha (k := 3) rfl
                            have g673 : s62 a 4 = s29 a 4 := (by rw [e_s62, zU_at (Or.inl (zne (zr (k := 56) (t2 := 105) hG ha rfl) ha (by decide))), e_s61, zU_at (Or.inl (zne (zr (k := 56) (t2 := 105) hG ha rfl) ha (by decide))), e_s58, zU_at (Or.inl (zne (zr (k := 56) (t2 := 105) hG ha rfl) ha (by decide))), e_s57, zU_at (Or.inl (zne (zr (k := 56) (t2 := 105) hG ha rfl) ha (by decide))), (zFr_g hF_s30 ha (by decide))])
                            have f674 := zf hS_s29 ha (k := 4) rfl
                            have g675 : s62 a 5 = s29 a 5 := (by rw [e_s62, zU_at (Or.inl (zne (zr (k := 56) (t2 := 105) hG ha rfl) ha (by decide))), e_s61, zU_at (Or.inl (zne (zr (k := 56) (t2 := 105) hG ha rfl) ha (by decide))), e_s58, zU_at (Or.inl (zne (zr (k := 56) (t2 := 105) hG ha rfl) ha (by decide))), e_s57, zU_at (Or.inl (zne (zr (k := 56) (t2 := 105) hG ha rfl) ha (by decide))), (zFr_g hF_s30 ha (by decide))])
                            have f676 := zf hS_s29 ha (k := 5) rfl
                            have g677 : s62 a 7 = s29 a 7 := (by rw [e_s62, zU_at (Or.inl (zne (zr (k := 56) (t2 := 105) hG ha rfl) ha (by decide))), e_s61, zU_at (Or.inl (zne (zr (k := 56) (t2 := 105) hG ha rfl) ha (by decide))), e_s58, zU_at (Or.inl (zne (zr (k := 56) (t2 := 105) hG ha rfl) ha (by decide))), e_s57, zU_at (Or.inl (zne (zr (k := 56) (t2 := 105) hG ha rfl) ha (by decide))), (zFr_g hF_s30 ha (by decide))])
                            have f678 := zf hS_s29 ha (k := 7) rfl
                            have g679 : s62 a 21 = s29 a 21 := (by rw [e_s62, zU_at (Or.inl (zne (zr (k := 56) (t2 := 105) hG ha rfl) ha (by decide))), e_s61, zU_at (Or.inl (zne (zr (k := 56) (t2 := 105) hG ha rfl) ha (by decide))), e_s58, zU_at (Or.inl (zne (zr (k := 56) (t2 := 105) hG ha rfl) ha (by decide))), e_s57, zU_at (Or.inl (zne (zr (k := 56) (t2 := 105) hG ha rfl) ha (by decide))), (zFr_g hF_s30 ha (by decide))])
                            have f680 := zf hS_s29 ha (k := 21) rfl
                            have g681 : s62 a 22 = s29 a 22 := (by rw [e_s62, zU_at (Or.inl (zne (zr (k := 56) (t2 := 105) hG ha rfl) ha (by decide))), e_s61, zU_at (Or.inl (zne (zr (k := 56) (t2 := 105) hG ha rfl) ha (by decide))), e_s58, zU_at (Or.inl (zne (zr (k := 56) (t2 := 105) hG ha rfl) ha (by decide))), e_s57, zU_at (Or.inl (zne (zr (k := 56) (t2 := 105) hG ha rfl) ha (by decide))), (zFr_g hF_s30 ha (by decide))])
                            have f682 := zf hS_s29 ha (k := 22) rfl
                            have g683 : s62 a 23 = s29 a 23 := (by rw [e_s62, zU_at (Or.inl (zne (zr (k := 56) (t2 := 105) hG ha rfl) ha (by decide))), e_s61, zU_at (Or.inl (zne (zr (k := 56) (t2 := 105) hG ha rfl) ha (by decide))), e_s58, zU_at (Or.inl (zne (zr (k := 56) (t2 := 105) hG ha rfl) ha (by decide))), e_s57, zU_at (Or.inl (zne (zr (k := 56) (t2 := 105) hG ha rfl) ha (by decide))), (zFr_g hF_s30 ha (by decide))])
                            have f684 := zf hS_s29 ha (k := 23) rfl
                            have g685 : s62 a 24 = s29 a 24 := (by rw [e_s62, zU_at (Or.inl (zne (zr (k := 56) (t2 := 105) hG ha rfl) ha (by decide))), e_s61, zU_at (Or.inl (zne (zr (k := 56) (t2 := 105) hG ha rfl) ha (by decide))), e_s58, zU_at (Or.inl (zne (zr (k := 56) (t2 := 105) hG ha rfl) ha (by decide))), e_s57, zU_at (Or.inl (zne (zr (k := 56) (t2 := 105) hG ha rfl) ha (by decide))), (zFr_g hF_s30 ha (by decide))])
                            have f686 := zf hS_s29 ha (k := 24) rfl
                            have g687 : s62 a 38 = s29 a 38 := (by rw [e_s62, zU_at (Or.inl (zne (zr (k := 56) (t2 := 105) hG ha rfl) ha (by decide))), e_s61, zU_at (Or.inl (zne (zr (k := 56) (t2 := 105) hG ha rfl) ha (by decide))), e_s58, zU_at (Or.inl (zne (zr (k := 56) (t2 := 105) hG ha rfl) ha (by decide))), e_s57, zU_at (Or.inl (zne (zr (k := 56) (t2 := 105) hG ha rfl) ha (by decide))), (zFr_g hF_s30 ha (by decide))])
                            have f688 := zf hS_s29 ha (k := 38) rfl
                            have g689 : zc (s62 (gP G a 27)) = zc (s30 (gP G a 27)) := by rw [e_s62, zU_ne (zne (zr (k := 56) (t2 := 105) hG ha rfl) (zr (k := 27) (t2 := 84) hG ha rfl) (by decide)), e_s61, zU_ne (zne (zr (k := 56) (t2 := 105) hG ha rfl) (zr (k := 27) (t2 := 84) hG ha rfl) (by decide)), e_s58, zU_ne (zne (zr (k := 56) (t2 := 105) hG ha rfl) (zr (k := 27) (t2 := 84) hG ha rfl) (by decide)), e_s57, zU_ne (zne (zr (k := 56) (t2 := 105) hG ha rfl) (zr (k := 27) (t2 := 84) hG ha rfl) (by decide))]
                            have g690 : s62 (gP G a 27) 488 = s30 (gP G a 27) 488 := (by rw [e_s62, zU_at (Or.inl (zne (zr (k := 56) (t2 := 105) hG ha rfl) (zr (k := 27) (t2 := 84) hG ha rfl) (by decide))), e_s61, zU_at (Or.inl (zne (zr (k := 56) (t2 := 105) hG ha rfl) (zr (k := 27) (t2 := 84) hG ha rfl) (by decide))), e_s58, zU_at (Or.inl (zne (zr (k := 56) (t2 := 105) hG ha rfl) (zr (k := 27) (t2 := 84) hG ha rfl) (by decide))), e_s57, zU_at (Or.inl (zne (zr (k := 56) (t2 := 105) hG ha rfl) (zr (k := 27) (t2 := 84) hG ha rfl) (by decide)))])
                            exact j_sub [1, 2, 3, 4, 0] [(0, .ref a), (1, .int (zI x1)), (2, .int (zI x2)), (3, .int (zI x3)), (4, .int (zI (v92 + 1)))] rfl (ih_c71_11 (v92 + 1) s62 (by omega) (by omega) hS_s62 (zFr_u (zFr_u (zFr_u (zFr_u (zFr_t (zFr_t (zFr_t (zFr_t zFr_rf hF_s12 (by decide)) hF_s28 (by decide)) hF_s29 (by decide)) hF_s30 (by decide)) e_s57 (zr (k := 56) (t2 := 105) hG ha rfl) (by decide)) e_s58 (zr (k := 56) (t2 := 105) hG ha rfl) (by decide)) e_s61 (zr (k := 56) (t2 := 105) hG ha rfl) (by decide)) e_s62 (zr (k := 56) (t2 := 105) hG ha rfl) (by decide)) (by omega) (by omega) (by omega) (by omega) (by omega) (by omega) (by omega) (by omega) (by omega) (by omega) (by omega) (by omega))
                          · skip
                            refine j_iconst hx dX12_lot_200 ?_
                            refine j_goto hx 205 dX12_lot_201 rfl ?_
                            refine j_iadd hx (r := (s12 (gP G a 56) 5)) dX12_lot_205 (by omega) ?_
                            refine j_iast hx hG (zr (k := 56) (t2 := 105) hG ha rfl) (by decide) rfl (zlen hG (zr (k := 56) (t2 := 105) hG ha rfl) (n := 6) rfl rfl) (by omega) (by omega) (j := 5) rfl dX12_lot_206 ?_
                            obtain ⟨s63, e_s63⟩ : ∃ z, z = zU s61 (gP G a 56) 5 ((s12 (gP G a 56) 5)) := ⟨_, rfl⟩
                            rw [← e_s63]
                            have hS_s63 : zSK G s63 := by rw [e_s63]; exact zSK_A hS_s61 (zr (k := 56) (t2 := 105) hG ha rfl) rfl rfl rfl (by omega)
                            refine j_iinc hx 4 [(4, .int (zI (v92 + 1))), (0, .ref a), (1, .int (zI x1)), (2, .int (zI x2)), (3, .int (zI x3))] dX12_lot_207 rfl (by omega) (by decide) rfl ?_
                            refine j_goto hx 71 dX12_lot_210 rfl ?_
                            have g691 : s63 a 0 = s29 a 0 := (by rw [e_s63, zU_at (Or.inl (zne (zr (k := 56) (t2 := 105) hG ha rfl) ha (by decide))), e_s61, zU_at (Or.inl (zne (zr (k := 56) (t2 := 105) hG ha rfl) ha (by decide))), e_s58, zU_at (Or.inl (zne (zr (k := 56) (t2 := 105) hG ha rfl) ha (by decide))), e_s57, zU_at (Or.inl (zne (zr (k := 56) (t2 := 105) hG ha rfl) ha (by decide))), (zFr_g hF_s30 ha (by decide))])
                            have f692 := zf hS_s29 ha (k := 0) rfl
                            have g693 : s63 a 3 = s29 a 3 := (by rw [e_s63, zU_at (Or.inl (zne (zr (k := 56) (t2 := 105) hG ha rfl) ha (by decide))), e_s61, zU_at (Or.inl (zne (zr (k := 56) (t2 := 105) hG ha rfl) ha (by decide))), e_s58, zU_at (Or.inl (zne (zr (k := 56) (t2 := 105) hG ha rfl) ha (by decide))), e_s57, zU_at (Or.inl (zne (zr (k := 56) (t2 := 105) hG ha rfl) ha (by decide))), (zFr_g hF_s30 ha (by decide))])
                            have f694 := zf hS_s29 ha (k := 3) rfl
                            have g695 : s63 a 4 = s29 a 4 := (by rw [e_s63, zU_at (Or.inl (zne (zr (k := 56) (t2 := 105) hG ha rfl) ha (by decide))), e_s61, zU_at (Or.inl (zne (zr (k := 56) (t2 := 105) hG ha rfl) ha (by decide))), e_s58, zU_at (Or.inl (zne (zr (k := 56) (t2 := 105) hG ha rfl) ha (by decide))), e_s57, zU_at (Or.inl (zne (zr (k := 56) (t2 := 105) hG ha rfl) ha (by decide))), (zFr_g hF_s30 ha (by decide))])
                            have f696 := zf hS_s29 ha (k := 4) rfl
                            have g697 : s63 a 5 = s29 a 5 := (by rw [e_s63, zU_at (Or.inl (zne (zr (k := 56) (t2 := 105) hG ha rfl) ha (by decide))), e_s61, zU_at (Or.inl (zne (zr (k := 56) (t2 := 105) hG ha rfl) ha (by decide))), e_s58, zU_at (Or.inl (zne (zr (k := 56) (t2 := 105) hG ha rfl) ha (by decide))), e_s57, zU_at (Or.inl (zne (zr (k := 56) (t2 := 105) hG ha rfl) ha (by decide))), (zFr_g hF_s30 ha (by decide))])
                            have f698 := zf hS_s29 ha (k := 5) rfl
                            have g699 : s63 a 7 = s29 a 7 := (by rw [e_s63, zU_at (Or.inl (zne (zr (k := 56) (t2 := 105) hG ha rfl) ha (by decide))), e_s61, zU_at (Or.inl (zne (zr (k := 56) (t2 := 105) hG ha rfl) ha (by decide))), e_s58, zU_at (Or.inl (zne (zr (k := 56) (t2 := 105) hG ha rfl) ha (by decide))), e_s57, zU_at (Or.inl (zne (zr (k := 56) (t2 := 105) hG ha rfl) ha (by decide))), (zFr_g hF_s30 ha (by decide))])
                            have f700 := zf hS_s29 ha (k := 7) rfl
                            have g701 : s63 a 21 = s29 a 21 := (by rw [e_s63, zU_at (Or.inl (zne (zr (k := 56) (t2 := 105) hG ha rfl) ha (by decide))), e_s61, zU_at (Or.inl (zne (zr (k := 56) (t2 := 105) hG ha rfl) ha (by decide))), e_s58, zU_at (Or.inl (zne (zr (k := 56) (t2 := 105) hG ha rfl) ha (by decide))), e_s57, zU_at (Or.inl (zne (zr (k := 56) (t2 := 105) hG ha rfl) ha (by decide))), (zFr_g hF_s30 ha (by decide))])
                            have f702 := zf hS_s29 ha (k := 21) rfl
                            have g703 : s63 a 22 = s29 a 22 := (by rw [e_s63, zU_at (Or.inl (zne (zr (k := 56) (t2 := 105) hG ha rfl) ha (by decide))), e_s61, zU_at (Or.inl (zne (zr (k := 56) (t2 := 105) hG ha rfl) ha (by decide))), e_s58, zU_at (Or.inl (zne (zr (k := 56) (t2 := 105) hG ha rfl) ha (by decide))), e_s57, zU_at (Or.inl (zne (zr (k := 56) (t2 := 105) hG ha rfl) ha (by decide))), (zFr_g hF_s30 ha (by decide))])
                            have f704 := zf hS_s29 ha (k := 22) rfl
                            have g705 : s63 a 23 = s29 a 23 := (by rw [e_s63, zU_at (Or.inl (zne (zr (k := 56) (t2 := 105) hG ha rfl) ha (by decide))), e_s61, zU_at (Or.inl (zne (zr (k := 56) (t2 := 105) hG ha rfl) ha (by decide))), e_s58, zU_at (Or.inl (zne (zr (k := 56) (t2 := 105) hG ha rfl) ha (by decide))), e_s57, zU_at (Or.inl (zne (zr (k := 56) (t2 := 105) hG ha rfl) ha (by decide))), (zFr_g hF_s30 ha (by decide))])
                            have f706 := zf hS_s29 ha (k := 23) rfl
                            have g707 : s63 a 24 = s29 a 24 := (by rw [e_s63, zU_at (Or.inl (zne (zr (k := 56) (t2 := 105) hG ha rfl) ha (by decide))), e_s61, zU_at (Or.inl (zne (zr (k := 56) (t2 := 105) hG ha rfl) ha (by decide))), e_s58, zU_at (Or.inl (zne (zr (k := 56) (t2 := 105) hG ha rfl) ha (by decide))), e_s57, zU_at (Or.inl (zne (zr (k := 56) (t2 := 105) hG ha rfl) ha (by decide))), (zFr_g hF_s30 ha (by decide))])
                            have f708 := zf hS_s29 ha (k := 24) rfl
                            have g709 : s63 a 38 = s29 a 38 := (by rw [e_s63, zU_at (Or.inl (zne (zr (k := 56) (t2 := 105) hG ha rfl) ha (by decide))), e_s61, zU_at (Or.inl (zne (zr (k := 56) (t2 := 105) hG ha rfl) ha (by decide))), e_s58, zU_at (Or.inl (zne (zr (k := 56) (t2 := 105) hG ha rfl) ha (by decide))), e_s57, zU_at (Or.inl (zne (zr (k := 56) (t2 := 105) hG ha rfl) ha (by decide))), (zFr_g hF_s30 ha (by decide))])
                            have f710 := zf hS_s29 ha (k := 38) rfl
                            have g711 : zc (s63 (gP G a 27)) = zc (s30 (gP G a 27)) := by rw [e_s63, zU_ne (zne (zr (k := 56) (t2 := 105) hG ha rfl) (zr (k := 27) (t2 := 84) hG ha rfl) (by decide)), e_s61, zU_ne (zne (zr (k := 56) (t2 := 105) hG ha rfl) (zr (k := 27) (t2 := 84) hG ha rfl) (by decide)), e_s58, zU_ne (zne (zr (k := 56) (t2 := 105) hG ha rfl) (zr (k := 27) (t2 := 84) hG ha rfl) (by decide)), e_s57, zU_ne (zne (zr (k := 56) (t2 := 105) hG ha rfl) (zr (k := 27) (t2 := 84) hG ha rfl) (by decide))]
                            have g712 : s63 (gP G a 27) 488 = s30 (gP G a 27) 488 := (by rw [e_s63, zU_at (Or.inl (zne (zr (k := 56) (t2 := 105) hG ha rfl) (zr (k := 27) (t2 := 84) hG ha rfl) (by decide))), e_s61, zU_at (Or.inl (zne (zr (k := 56) (t2 := 105) hG ha rfl) (zr (k := 27) (t2 := 84) hG ha rfl) (by decide))), e_s58, zU_at (Or.inl (zne (zr (k := 56) (t2 := 105) hG ha rfl) (zr (k := 27) (t2 := 84) hG ha rfl) (by decide))), e_s57, zU_at (Or.inl (zne (zr (k := 56) (t2 := 105) hG ha rfl) (zr (k := 27) (t2 := 84) hG ha rfl) (by decide)))])
                            exact j_sub [1, 2, 3, 4, 0] [(0, .ref a), (1, .int (zI x1)), (2, .int (zI x2)), (3, .int (zI x3)), (4, .int (zI (v92 + 1)))] rfl (ih_c71_11 (v92 + 1) s63 (by omega) (by omega) hS_s63 (zFr_u (zFr_u (zFr_u (zFr_u (zFr_t (zFr_t (zFr_t (zFr_t zFr_rf hF_s12 (by decide)) hF_s28 (by decide)) hF_s29 (by decide)) hF_s30 (by decide)) e_s57 (zr (k := 56) (t2 := 105) hG ha rfl) (by decide)) e_s58 (zr (k := 56) (t2 := 105) hG ha rfl) (by decide)) e_s61 (zr (k := 56) (t2 := 105) hG ha rfl) (by decide)) e_s63 (zr (k := 56) (t2 := 105) hG ha rfl) (by decide)) (by omega) (by omega) (by omega) (by omega) (by omega) (by omega) (by omega) (by omega) (by omega) (by omega) (by omega) (by omega))
                      · skip
                        refine j_aload_n hx 0 dX12_lot_148 rfl ?_
                        refine g13_52 hx hG ha kf_RX12_429 (v := (s29 a 52)) (by rw [e_s57, zU_at (Or.inl (zne (zr (k := 56) (t2 := 105) hG ha rfl) ha (by decide))), (zFr_g hF_s30 ha (by decide))]) dX12_lot_149 ?_
                        refine j_goto hx 161 dX12_lot_152 rfl ?_
                        refine j_iast hx hG (zr (k := 56) (t2 := 105) hG ha rfl) (by decide) rfl (zlen hG (zr (k := 56) (t2 := 105) hG ha rfl) (n := 6) rfl rfl) (by omega) (by omega) (j := 1) rfl dX12_lot_161 ?_
                        obtain ⟨s64, e_s64⟩ : ∃ z, z = zU s57 (gP G a 56) 1 ((s29 a 52)) := ⟨_, rfl⟩
                        rw [← e_s64]
                        have hS_s64 : zSK G s64 := by rw [e_s64]; exact zSK_A hS_s57 (zr (k := 56) (t2 := 105) hG ha rfl) rfl rfl rfl (by omega)
                        refine j_aload_n hx 0 dX12_lot_162 rfl ?_
                        have f713 := zf hS_s29 ha (k := 54) rfl
                        refine g13_54 hx hG ha kf_RX12_441 (v := (s29 a 54)) (by rw [e_s64, zU_at (Or.inl (zne (zr (k := 56) (t2 := 105) hG ha rfl) ha (by decide))), e_s57, zU_at (Or.inl (zne (zr (k := 56) (t2 := 105) hG ha rfl) ha (by decide))), (zFr_g hF_s30 ha (by decide))]) dX12_lot_163 ?_
                        refine j_iconst hx dX12_lot_166 ?_
                        refine j_icmp_eq hx 185 dX12_lot_167 rfl (by omega) ⟨by decide, by decide⟩ (fun h714 => ?_) (fun h714 => ?_)
                        · skip
                          refine j_aload_n hx 0 dX12_lot_185 rfl ?_
                          refine g13_56 hx hG ha kf_RX12_121 dX12_lot_186 ?_
                          refine j_iconst hx dX12_lot_189 ?_
                          refine j_dup2 hx dX12_lot_190 rfl rfl ?_
                          have f715 := zaI (j := 5) hS_s12 (zr (k := 56) (t2 := 105) hG ha rfl) rfl (zlen hG (zr (k := 56) (t2 := 105) hG ha rfl) (n := 6) rfl rfl) (show 0 ≤ 5 by omega) (by omega) rfl
                          refine j_iald hx hG (zr (k := 56) (t2 := 105) hG ha rfl) (by decide) rfl (zlen hG (zr (k := 56) (t2 := 105) hG ha rfl) (n := 6) rfl rfl) (by omega) (by omega) (j := 5) rfl (v := (s12 (gP G a 56) 5)) (by rw [e_s64, zU_at (Or.inr (by decide)), e_s57, zU_at (Or.inr (by decide)), (zFr_g hF_s30 (zr (k := 56) (t2 := 105) hG ha rfl) (by decide)), (zFr_g hF_s29 (zr (k := 56) (t2 := 105) hG ha rfl) (by decide)), (zFr_g hF_s28 (zr (k := 56) (t2 := 105) hG ha rfl) (by decide))]) dX12_lot_191 ?_
                          refine j_aload_n hx 0 dX12_lot_192 rfl ?_
                          have f716 := zf hS_s29 ha (k := 51) rfl
                          refine g13_51 hx hG ha kf_RX12_432 (v := (s29 a 51)) (by rw [e_s64, zU_at (Or.inl (zne (zr (k := 56) (t2 := 105) hG ha rfl) ha (by decide))), e_s57, zU_at (Or.inl (zne (zr (k := 56) (t2 := 105) hG ha rfl) ha (by decide))), (zFr_g hF_s30 ha (by decide))]) dX12_lot_193 ?_
                          refine j_iconst hx dX12_lot_196 ?_
                          refine j_icmp_ne hx 204 dX12_lot_197 rfl (by omega) ⟨by decide, by decide⟩ (fun h717 => ?_) (fun h717 => ?_)
                          · skip
                            refine j_iconst hx dX12_lot_204 ?_
                            refine j_iadd hx (r := (s12 (gP G a 56) 5) + 1) dX12_lot_205 (by omega) ?_
                            refine j_norm (fun v718 f719 f720 f721 => ?_)
                            refine j_iast hx hG (zr (k := 56) (t2 := 105) hG ha rfl) (by decide) rfl (zlen hG (zr (k := 56) (t2 := 105) hG ha rfl) (n := 6) rfl rfl) (by omega) (by omega) (j := 5) rfl dX12_lot_206 ?_
                            obtain ⟨s65, e_s65⟩ : ∃ z, z = zU s64 (gP G a 56) 5 v718 := ⟨_, rfl⟩
                            rw [← e_s65]
                            have hS_s65 : zSK G s65 := by rw [e_s65]; exact zSK_A hS_s64 (zr (k := 56) (t2 := 105) hG ha rfl) rfl rfl rfl (by omega)
                            refine j_iinc hx 4 [(4, .int (zI (v92 + 1))), (0, .ref a), (1, .int (zI x1)), (2, .int (zI x2)), (3, .int (zI x3))] dX12_lot_207 rfl (by omega) (by decide) rfl ?_
                            refine j_goto hx 71 dX12_lot_210 rfl ?_
                            have g722 : s65 a 0 = s29 a 0 := (by rw [e_s65, zU_at (Or.inl (zne (zr (k := 56) (t2 := 105) hG ha rfl) ha (by decide))), e_s64, zU_at (Or.inl (zne (zr (k := 56) (t2 := 105) hG ha rfl) ha (by decide))), e_s57, zU_at (Or.inl (zne (zr (k := 56) (t2 := 105) hG ha rfl) ha (by decide))), (zFr_g hF_s30 ha (by decide))])
                            have f723 := zf hS_s29 ha (k := 0) rfl
                            have g724 : s65 a 3 = s29 a 3 := (by rw [e_s65, zU_at (Or.inl (zne (zr (k := 56) (t2 := 105) hG ha rfl) ha (by decide))), e_s64, zU_at (Or.inl (zne (zr (k := 56) (t2 := 105) hG ha rfl) ha (by decide))), e_s57, zU_at (Or.inl (zne (zr (k := 56) (t2 := 105) hG ha rfl) ha (by decide))), (zFr_g hF_s30 ha (by decide))])
                            have f725 := zf hS_s29 ha (k := 3) rfl
                            have g726 : s65 a 4 = s29 a 4 := (by rw [e_s65, zU_at (Or.inl (zne (zr (k := 56) (t2 := 105) hG ha rfl) ha (by decide))), e_s64, zU_at (Or.inl (zne (zr (k := 56) (t2 := 105) hG ha rfl) ha (by decide))), e_s57, zU_at (Or.inl (zne (zr (k := 56) (t2 := 105) hG ha rfl) ha (by decide))), (zFr_g hF_s30 ha (by decide))])
                            have f727 := zf hS_s29 ha (k := 4) rfl
                            have g728 : s65 a 5 = s29 a 5 := (by rw [e_s65, zU_at (Or.inl (zne (zr (k := 56) (t2 := 105) hG ha rfl) ha (by decide))), e_s64, zU_at (Or.inl (zne (zr (k := 56) (t2 := 105) hG ha rfl) ha (by decide))), e_s57, zU_at (Or.inl (zne (zr (k := 56) (t2 := 105) hG ha rfl) ha (by decide))), (zFr_g hF_s30 ha (by decide))])
                            have f729 := zf hS_s29 ha (k := 5) rfl
                            have g730 : s65 a 7 = s29 a 7 := (by rw [e_s65, zU_at (Or.inl (zne (zr (k := 56) (t2 := 105) hG ha rfl) ha (by decide))), e_s64, zU_at (Or.inl (zne (zr (k := 56) (t2 := 105) hG ha rfl) ha (by decide))), e_s57, zU_at (Or.inl (zne (zr (k := 56) (t2 := 105) hG ha rfl) ha (by decide))), (zFr_g hF_s30 ha (by decide))])
                            have f731 := zf hS_s29 ha (k := 7) rfl
                            have g732 : s65 a 21 = s29 a 21 := (by rw [e_s65, zU_at (Or.inl (zne (zr (k := 56) (t2 := 105) hG ha rfl) ha (by decide))), e_s64, zU_at (Or.inl (zne (zr (k := 56) (t2 := 105) hG ha rfl) ha (by decide))), e_s57, zU_at (Or.inl (zne (zr (k := 56) (t2 := 105) hG ha rfl) ha (by decide))), (zFr_g hF_s30 ha (by decide))])
                            have f733 := zf hS_s29 ha (k := 21) rfl
                            have g734 : s65 a 22 = s29 a 22 := (by rw [e_s65, zU_at (Or.inl (zne (zr (k := 56) (t2 := 105) hG ha rfl) ha (by decide))), e_s64, zU_at (Or.inl (zne (zr (k := 56) (t2 := 105) hG ha rfl) ha (by decide))), e_s57, zU_at (Or.inl (zne (zr (k := 56) (t2 := 105) hG ha rfl) ha (by decide))), (zFr_g hF_s30 ha (by decide))])
                            have f735 := zf hS_s29 ha (k := 22) rfl
                            have g736 : s65 a 23 = s29 a 23 := (by rw [e_s65, zU_at (Or.inl (zne (zr (k := 56) (t2 := 105) hG ha rfl) ha (by decide))), e_s64, zU_at (Or.inl (zne (zr (k := 56) (t2 := 105) hG ha rfl) ha (by decide))), e_s57, zU_at (Or.inl (zne (zr (k := 56) (t2 := 105) hG ha rfl) ha (by decide))), (zFr_g hF_s30 ha (by decide))])
                            have f737 := zf hS_s29 ha (k := 23) rfl
                            have g738 : s65 a 24 = s29 a 24 := (by rw [e_s65, zU_at (Or.inl (zne (zr (k := 56) (t2 := 105) hG ha rfl) ha (by decide))), e_s64, zU_at (Or.inl (zne (zr (k := 56) (t2 := 105) hG ha rfl) ha (by decide))), e_s57, zU_at (Or.inl (zne (zr (k := 56) (t2 := 105) hG ha rfl) ha (by decide))), (zFr_g hF_s30 ha (by decide))])
                            have f739 := zf hS_s29 ha (k := 24) rfl
                            have g740 : s65 a 38 = s29 a 38 := (by rw [e_s65, zU_at (Or.inl (zne (zr (k := 56) (t2 := 105) hG ha rfl) ha (by decide))), e_s64, zU_at (Or.inl (zne (zr (k := 56) (t2 := 105) hG ha rfl) ha (by decide))), e_s57, zU_at (Or.inl (zne (zr (k := 56) (t2 := 105) hG ha rfl) ha (by decide))), (zFr_g hF_s30 ha (by decide))])
                            have f741 := zf hS_s29 ha (k := 38) rfl
                            have g742 : zc (s65 (gP G a 27)) = zc (s30 (gP G a 27)) := by rw [e_s65, zU_ne (zne (zr (k := 56) (t2 := 105) hG ha rfl) (zr (k := 27) (t2 := 84) hG ha rfl) (by decide)), e_s64, zU_ne (zne (zr (k := 56) (t2 := 105) hG ha rfl) (zr (k := 27) (t2 := 84) hG ha rfl) (by decide)), e_s57, zU_ne (zne (zr (k := 56) (t2 := 105) hG ha rfl) (zr (k := 27) (t2 := 84) hG ha rfl) (by decide))]
                            have g743 : s65 (gP G a 27) 488 = s30 (gP G a 27) 488 := (by rw [e_s65, zU_at (Or.inl (zne (zr (k := 56) (t2 := 105) hG ha rfl) (zr (k := 27) (t2 := 84) hG ha rfl) (by decide))), e_s64, zU_at (Or.inl (zne (zr (k := 56) (t2 := 105) hG ha rfl) (zr (k := 27) (t2 := 84) hG ha rfl) (by decide))), e_s57, zU_at (Or.inl (zne (zr (k := 56) (t2 := 105) hG ha rfl) (zr (k := 27) (t2 := 84) hG ha rfl) (by decide)))])
                            exact j_sub [1, 2, 3, 4, 0] [(0, .ref a), (1, .int (zI x1)), (2, .int (zI x2)), (3, .int (zI x3)), (4, .int (zI (v92 + 1)))] rfl (ih_c71_11 (v92 + 1) s65 (by omega) (by omega) hS_s65 (zFr_u (zFr_u (zFr_u (zFr_t (zFr_t (zFr_t (zFr_t zFr_rf hF_s12 (by decide)) hF_s28 (by decide)) hF_s29 (by decide)) hF_s30 (by decide)) e_s57 (zr (k := 56) (t2 := 105) hG ha rfl) (by decide)) e_s64 (zr (k := 56) (t2 := 105) hG ha rfl) (by decide)) e_s65 (zr (k := 56) (t2 := 105) hG ha rfl) (by decide)) (by omega) (by omega) (by omega) (by omega) (by omega) (by omega) (by omega) (by omega) (by omega) (by omega) (by omega) (by omega))
                          · skip
                            refine j_iconst hx dX12_lot_200 ?_
                            refine j_goto hx 205 dX12_lot_201 rfl ?_
                            refine j_iadd hx (r := (s12 (gP G a 56) 5)) dX12_lot_205 (by omega) ?_
                            refine j_iast hx hG (zr (k := 56) (t2 := 105) hG ha rfl) (by decide) rfl (zlen hG (zr (k := 56) (t2 := 105) hG ha rfl) (n := 6) rfl rfl) (by omega) (by omega) (j := 5) rfl dX12_lot_206 ?_
                            obtain ⟨s66, e_s66⟩ : ∃ z, z = zU s64 (gP G a 56) 5 ((s12 (gP G a 56) 5)) := ⟨_, rfl⟩
                            rw [← e_s66]
                            have hS_s66 : zSK G s66 := by rw [e_s66]; exact zSK_A hS_s64 (zr (k := 56) (t2 := 105) hG ha rfl) rfl rfl rfl (by omega)
                            refine j_iinc hx 4 [(4, .int (zI (v92 + 1))), (0, .ref a), (1, .int (zI x1)), (2, .int (zI x2)), (3, .int (zI x3))] dX12_lot_207 rfl (by omega) (by decide) rfl ?_
                            refine j_goto hx 71 dX12_lot_210 rfl ?_
                            have g744 : s66 a 0 = s29 a 0 := (by rw [e_s66, zU_at (Or.inl (zne (zr (k := 56) (t2 := 105) hG ha rfl) ha (by decide))), e_s64, zU_at (Or.inl (zne (zr (k := 56) (t2 := 105) hG ha rfl) ha (by decide))), e_s57, zU_at (Or.inl (zne (zr (k := 56) (t2 := 105) hG ha rfl) ha (by decide))), (zFr_g hF_s30 ha (by decide))])
                            have f745 := zf hS_s29 ha (k := 0) rfl
                            have g746 : s66 a 3 = s29 a 3 := (by rw [e_s66, zU_at (Or.inl (zne (zr (k := 56) (t2 := 105) hG ha rfl) ha (by decide))), e_s64, zU_at (Or.inl (zne (zr (k := 56) (t2 := 105) hG ha rfl) ha (by decide))), e_s57, zU_at (Or.inl (zne (zr (k := 56) (t2 := 105) hG ha rfl) ha (by decide))), (zFr_g hF_s30 ha (by decide))])
                            have f747 := zf hS_s29 ha (k := 3) rfl
                            have g748 : s66 a 4 = s29 a 4 := (by rw [e_s66, zU_at (Or.inl (zne (zr (k := 56) (t2 := 105) hG ha rfl) ha (by decide))), e_s64, zU_at (Or.inl (zne (zr (k := 56) (t2 := 105) hG ha rfl) ha (by decide))), e_s57, zU_at (Or.inl (zne (zr (k := 56) (t2 := 105) hG ha rfl) ha (by decide))), (zFr_g hF_s30 ha (by decide))])
                            have f749 := zf hS_s29 ha (k := 4) rfl
                            have g750 : s66 a 5 = s29 a 5 := (by rw [e_s66, zU_at (Or.inl (zne (zr (k := 56) (t2 := 105) hG ha rfl) ha (by decide))), e_s64, zU_at (Or.inl (zne (zr (k := 56) (t2 := 105) hG ha rfl) ha (by decide))), e_s57, zU_at (Or.inl (zne (zr (k := 56) (t2 := 105) hG ha rfl) ha (by decide))), (zFr_g hF_s30 ha (by decide))])
                            have f751 := zf hS_s29 ha (k := 5) rfl
                            have g752 : s66 a 7 = s29 a 7 := (by rw [e_s66, zU_at (Or.inl (zne (zr (k := 56) (t2 := 105) hG ha rfl) ha (by decide))), e_s64, zU_at (Or.inl (zne (zr (k := 56) (t2 := 105) hG ha rfl) ha (by decide))), e_s57, zU_at (Or.inl (zne (zr (k := 56) (t2 := 105) hG ha rfl) ha (by decide))), (zFr_g hF_s30 ha (by decide))])
                            have f753 := zf hS_s29 ha (k := 7) rfl
                            have g754 : s66 a 21 = s29 a 21 := (by rw [e_s66, zU_at (Or.inl (zne (zr (k := 56) (t2 := 105) hG ha rfl) ha (by decide))), e_s64, zU_at (Or.inl (zne (zr (k := 56) (t2 := 105) hG ha rfl) ha (by decide))), e_s57, zU_at (Or.inl (zne (zr (k := 56) (t2 := 105) hG ha rfl) ha (by decide))), (zFr_g hF_s30 ha (by decide))])
                            have f755 := zf hS_s29 ha (k := 21) rfl
                            have g756 : s66 a 22 = s29 a 22 := (by rw [e_s66, zU_at (Or.inl (zne (zr (k := 56) (t2 := 105) hG ha rfl) ha (by decide))), e_s64, zU_at (Or.inl (zne (zr (k := 56) (t2 := 105) hG ha rfl) ha (by decide))), e_s57, zU_at (Or.inl (zne (zr (k := 56) (t2 := 105) hG ha rfl) ha (by decide))), (zFr_g hF_s30 ha (by decide))])
                            have f757 := zf hS_s29 ha (k := 22) rfl
                            have g758 : s66 a 23 = s29 a 23 := (by rw [e_s66, zU_at (Or.inl (zne (zr (k := 56) (t2 := 105) hG ha rfl) ha (by decide))), e_s64, zU_at (Or.inl (zne (zr (k := 56) (t2 := 105) hG ha rfl) ha (by decide))), e_s57, zU_at (Or.inl (zne (zr (k := 56) (t2 := 105) hG ha rfl) ha (by decide))), (zFr_g hF_s30 ha (by decide))])
                            have f759 := zf hS_s29 ha (k := 23) rfl
                            have g760 : s66 a 24 = s29 a 24 := (by rw [e_s66, zU_at (Or.inl (zne (zr (k := 56) (t2 := 105) hG ha rfl) ha (by decide))), e_s64, zU_at (Or.inl (zne (zr (k := 56) (t2 := 105) hG ha rfl) ha (by decide))), e_s57, zU_at (Or.inl (zne (zr (k := 56) (t2 := 105) hG ha rfl) ha (by decide))), (zFr_g hF_s30 ha (by decide))])
                            have f761 := zf hS_s29 ha (k := 24) rfl
                            have g762 : s66 a 38 = s29 a 38 := (by rw [e_s66, zU_at (Or.inl (zne (zr (k := 56) (t2 := 105) hG ha rfl) ha (by decide))), e_s64, zU_at (Or.inl (zne (zr (k := 56) (t2 := 105) hG ha rfl) ha (by decide))), e_s57, zU_at (Or.inl (zne (zr (k := 56) (t2 := 105) hG ha rfl) ha (by decide))), (zFr_g hF_s30 ha (by decide))])
                            have f763 := zf hS_s29 ha (k := 38) rfl
                            have g764 : zc (s66 (gP G a 27)) = zc (s30 (gP G a 27)) := by rw [e_s66, zU_ne (zne (zr (k := 56) (t2 := 105) hG ha rfl) (zr (k := 27) (t2 := 84) hG ha rfl) (by decide)), e_s64, zU_ne (zne (zr (k := 56) (t2 := 105) hG ha rfl) (zr (k := 27) (t2 := 84) hG ha rfl) (by decide)), e_s57, zU_ne (zne (zr (k := 56) (t2 := 105) hG ha rfl) (zr (k := 27) (t2 := 84) hG ha rfl) (by decide))]
                            have g765 : s66 (gP G a 27) 488 = s30 (gP G a 27) 488 := (by rw [e_s66, zU_at (Or.inl (zne (zr (k := 56) (t2 := 105) hG ha rfl) (zr (k := 27) (t2 := 84) hG ha rfl) (by decide))), e_s64, zU_at (Or.inl (zne (zr (k := 56) (t2 := 105) hG ha rfl) (zr (k := 27) (t2 := 84) hG ha rfl) (by decide))), e_s57, zU_at (Or.inl (zne (zr (k := 56) (t2 := 105) hG ha rfl) (zr (k := 27) (t2 := 84) hG ha rfl) (by decide)))])
                            exact j_sub [1, 2, 3, 4, 0] [(0, .ref a), (1, .int (zI x1)), (2, .int (zI x2)), (3, .int (zI x3)), (4, .int (zI (v92 + 1)))] rfl (ih_c71_11 (v92 + 1) s66 (by omega) (by omega) hS_s66 (zFr_u (zFr_u (zFr_u (zFr_t (zFr_t (zFr_t (zFr_t zFr_rf hF_s12 (by decide)) hF_s28 (by decide)) hF_s29 (by decide)) hF_s30 (by decide)) e_s57 (zr (k := 56) (t2 := 105) hG ha rfl) (by decide)) e_s64 (zr (k := 56) (t2 := 105) hG ha rfl) (by decide)) e_s66 (zr (k := 56) (t2 := 105) hG ha rfl) (by decide)) (by omega) (by omega) (by omega) (by omega) (by omega) (by omega) (by omega) (by omega) (by omega) (by omega) (by omega) (by omega))
                        · skip
                          refine j_aload_n hx 0 dX12_lot_170 rfl ?_
                          refine g13_56 hx hG ha kf_RX12_121 dX12_lot_171 ?_
                          refine j_iconst hx dX12_lot_174 ?_
                          refine j_aload_n hx 0 dX12_lot_175 rfl ?_
                          refine g13_54 hx hG ha kf_RX12_441 (v := (s29 a 54)) (by rw [e_s64, zU_at (Or.inl (zne (zr (k := 56) (t2 := 105) hG ha rfl) ha (by decide))), e_s57, zU_at (Or.inl (zne (zr (k := 56) (t2 := 105) hG ha rfl) ha (by decide))), (zFr_g hF_s30 ha (by decide))]) dX12_lot_176 ?_
                          refine j_iadd hx (r := (s29 a 54) + 2) dX12_lot_179 (by omega) ?_
                          refine j_dup2 hx dX12_lot_180 rfl rfl ?_
                          have f766 := zaI (j := ((s29 a 54) + 2).toNat) hS_s12 (zr (k := 56) (t2 := 105) hG ha rfl) rfl (zlen hG (zr (k := 56) (t2 := 105) hG ha rfl) (n := 6) rfl rfl) (show 0 ≤ (s29 a 54) + 2 by omega) (by omega) rfl
                          refine j_iald hx hG (zr (k := 56) (t2 := 105) hG ha rfl) (by decide) rfl (zlen hG (zr (k := 56) (t2 := 105) hG ha rfl) (n := 6) rfl rfl) (by omega) (by omega) (j := ((s29 a 54) + 2).toNat) rfl (v := (s12 (gP G a 56) ((s29 a 54) + 2).toNat)) (by rw [e_s64, zU_at (Or.inr (by omega)), e_s57, zU_at (Or.inr (by omega)), (zFr_g hF_s30 (zr (k := 56) (t2 := 105) hG ha rfl) (by decide)), (zFr_g hF_s29 (zr (k := 56) (t2 := 105) hG ha rfl) (by decide)), (zFr_g hF_s28 (zr (k := 56) (t2 := 105) hG ha rfl) (by decide))]) dX12_lot_181 ?_
                          refine j_iconst hx dX12_lot_182 ?_
                          refine j_iadd hx (r := (s12 (gP G a 56) ((s29 a 54) + 2).toNat) + 1) dX12_lot_183 (by omega) ?_
                          refine j_norm (fun v767 f768 f769 f770 => ?_)
                          refine j_iast hx hG (zr (k := 56) (t2 := 105) hG ha rfl) (by decide) rfl (zlen hG (zr (k := 56) (t2 := 105) hG ha rfl) (n := 6) rfl rfl) (by omega) (by omega) (j := ((s29 a 54) + 2).toNat) rfl dX12_lot_184 ?_
                          obtain ⟨s67, e_s67⟩ : ∃ z, z = zU s64 (gP G a 56) ((s29 a 54) + 2).toNat v767 := ⟨_, rfl⟩
                          rw [← e_s67]
                          have hS_s67 : zSK G s67 := by rw [e_s67]; exact zSK_A hS_s64 (zr (k := 56) (t2 := 105) hG ha rfl) rfl rfl rfl (by omega)
                          refine j_aload_n hx 0 dX12_lot_185 rfl ?_
                          refine g13_56 hx hG ha kf_RX12_121 dX12_lot_186 ?_
                          refine j_iconst hx dX12_lot_189 ?_
                          refine j_dup2 hx dX12_lot_190 rfl rfl ?_
                          have f771 := zaI (j := 5) hS_s12 (zr (k := 56) (t2 := 105) hG ha rfl) rfl (zlen hG (zr (k := 56) (t2 := 105) hG ha rfl) (n := 6) rfl rfl) (show 0 ≤ 5 by omega) (by omega) rfl
                          refine j_iald hx hG (zr (k := 56) (t2 := 105) hG ha rfl) (by decide) rfl (zlen hG (zr (k := 56) (t2 := 105) hG ha rfl) (n := 6) rfl rfl) (by omega) (by omega) (j := 5) rfl (v := (s12 (gP G a 56) 5)) (by rw [e_s67, zU_at (Or.inr (by omega)), e_s64, zU_at (Or.inr (by decide)), e_s57, zU_at (Or.inr (by decide)), (zFr_g hF_s30 (zr (k := 56) (t2 := 105) hG ha rfl) (by decide)), (zFr_g hF_s29 (zr (k := 56) (t2 := 105) hG ha rfl) (by decide)), (zFr_g hF_s28 (zr (k := 56) (t2 := 105) hG ha rfl) (by decide))]) dX12_lot_191 ?_
                          refine j_aload_n hx 0 dX12_lot_192 rfl ?_
                          have f772 := zf hS_s29 ha (k := 51) rfl
                          refine g13_51 hx hG ha kf_RX12_432 (v := (s29 a 51)) (by rw [e_s67, zU_at (Or.inl (zne (zr (k := 56) (t2 := 105) hG ha rfl) ha (by decide))), e_s64, zU_at (Or.inl (zne (zr (k := 56) (t2 := 105) hG ha rfl) ha (by decide))), e_s57, zU_at (Or.inl (zne (zr (k := 56) (t2 := 105) hG ha rfl) ha (by decide))), (zFr_g hF_s30 ha (by decide))]) dX12_lot_193 ?_
                          refine j_iconst hx dX12_lot_196 ?_
                          refine j_icmp_ne hx 204 dX12_lot_197 rfl (by omega) ⟨by decide, by decide⟩ (fun h773 => ?_) (fun h773 => ?_)
                          · skip
                            refine j_iconst hx dX12_lot_204 ?_
                            refine j_iadd hx (r := (s12 (gP G a 56) 5) + 1) dX12_lot_205 (by omega) ?_
                            refine j_norm (fun v774 f775 f776 f777 => ?_)
                            refine j_iast hx hG (zr (k := 56) (t2 := 105) hG ha rfl) (by decide) rfl (zlen hG (zr (k := 56) (t2 := 105) hG ha rfl) (n := 6) rfl rfl) (by omega) (by omega) (j := 5) rfl dX12_lot_206 ?_
                            obtain ⟨s68, e_s68⟩ : ∃ z, z = zU s67 (gP G a 56) 5 v774 := ⟨_, rfl⟩
                            rw [← e_s68]
                            have hS_s68 : zSK G s68 := by rw [e_s68]; exact zSK_A hS_s67 (zr (k := 56) (t2 := 105) hG ha rfl) rfl rfl rfl (by omega)
                            refine j_iinc hx 4 [(4, .int (zI (v92 + 1))), (0, .ref a), (1, .int (zI x1)), (2, .int (zI x2)), (3, .int (zI x3))] dX12_lot_207 rfl (by omega) (by decide) rfl ?_
                            refine j_goto hx 71 dX12_lot_210 rfl ?_
                            have g778 : s68 a 0 = s29 a 0 := (by rw [e_s68, zU_at (Or.inl (zne (zr (k := 56) (t2 := 105) hG ha rfl) ha (by decide))), e_s67, zU_at (Or.inl (zne (zr (k := 56) (t2 := 105) hG ha rfl) ha (by decide))), e_s64, zU_at (Or.inl (zne (zr (k := 56) (t2 := 105) hG ha rfl) ha (by decide))), e_s57, zU_at (Or.inl (zne (zr (k := 56) (t2 := 105) hG ha rfl) ha (by decide))), (zFr_g hF_s30 ha (by decide))])
                            have f779 := zf hS_s29 ha (k := 0) rfl
                            have g780 : s68 a 3 = s29 a 3 := (by rw [e_s68, zU_at (Or.inl (zne (zr (k := 56) (t2 := 105) hG ha rfl) ha (by decide))), e_s67, zU_at (Or.inl (zne (zr (k := 56) (t2 := 105) hG ha rfl) ha (by decide))), e_s64, zU_at (Or.inl (zne (zr (k := 56) (t2 := 105) hG ha rfl) ha (by decide))), e_s57, zU_at (Or.inl (zne (zr (k := 56) (t2 := 105) hG ha rfl) ha (by decide))), (zFr_g hF_s30 ha (by decide))])
                            have f781 := zf hS_s29 ha (k := 3) rfl
                            have g782 : s68 a 4 = s29 a 4 := (by rw [e_s68, zU_at (Or.inl (zne (zr (k := 56) (t2 := 105) hG ha rfl) ha (by decide))), e_s67, zU_at (Or.inl (zne (zr (k := 56) (t2 := 105) hG ha rfl) ha (by decide))), e_s64, zU_at (Or.inl (zne (zr (k := 56) (t2 := 105) hG ha rfl) ha (by decide))), e_s57, zU_at (Or.inl (zne (zr (k := 56) (t2 := 105) hG ha rfl) ha (by decide))), (zFr_g hF_s30 ha (by decide))])
                            have f783 := zf hS_s29 ha (k := 4) rfl
                            have g784 : s68 a 5 = s29 a 5 := (by rw [e_s68, zU_at (Or.inl (zne (zr (k := 56) (t2 := 105) hG ha rfl) ha (by decide))), e_s67, zU_at (Or.inl (zne (zr (k := 56) (t2 := 105) hG ha rfl) ha (by decide))), e_s64, zU_at (Or.inl (zne (zr (k := 56) (t2 := 105) hG ha rfl) ha (by decide))), e_s57, zU_at (Or.inl (zne (zr (k := 56) (t2 := 105) hG ha rfl) ha (by decide))), (zFr_g hF_s30 ha (by decide))])
                            have f785 := zf hS_s29 ha (k := 5) rfl
                            have g786 : s68 a 7 = s29 a 7 := (by rw [e_s68, zU_at (Or.inl (zne (zr (k := 56) (t2 := 105) hG ha rfl) ha (by decide))), e_s67, zU_at (Or.inl (zne (zr (k := 56) (t2 := 105) hG ha rfl) ha (by decide))), e_s64, zU_at (Or.inl (zne (zr (k := 56) (t2 := 105) hG ha rfl) ha (by decide))), e_s57, zU_at (Or.inl (zne (zr (k := 56) (t2 := 105) hG ha rfl) ha (by decide))), (zFr_g hF_s30 ha (by decide))])
                            have f787 := zf hS_s29 ha (k := 7) rfl
                            have g788 : s68 a 21 = s29 a 21 := (by rw [e_s68, zU_at (Or.inl (zne (zr (k := 56) (t2 := 105) hG ha rfl) ha (by decide))), e_s67, zU_at (Or.inl (zne (zr (k := 56) (t2 := 105) hG ha rfl) ha (by decide))), e_s64, zU_at (Or.inl (zne (zr (k := 56) (t2 := 105) hG ha rfl) ha (by decide))), e_s57, zU_at (Or.inl (zne (zr (k := 56) (t2 := 105) hG ha rfl) ha (by decide))), (zFr_g hF_s30 ha (by decide))])
                            have f789 := zf hS_s29 ha (k := 21) rfl
                            have g790 : s68 a 22 = s29 a 22 := (by rw [e_s68, zU_at (Or.inl (zne (zr (k := 56) (t2 := 105) hG ha rfl) ha (by decide))), e_s67, zU_at (Or.inl (zne (zr (k := 56) (t2 := 105) hG ha rfl) ha (by decide))), e_s64, zU_at (Or.inl (zne (zr (k := 56) (t2 := 105) hG ha rfl) ha (by decide))), e_s57, zU_at (Or.inl (zne (zr (k := 56) (t2 := 105) hG ha rfl) ha (by decide))), (zFr_g hF_s30 ha (by decide))])
                            have f791 := zf hS_s29 ha (k := 22) rfl
                            have g792 : s68 a 23 = s29 a 23 := (by rw [e_s68, zU_at (Or.inl (zne (zr (k := 56) (t2 := 105) hG ha rfl) ha (by decide))), e_s67, zU_at (Or.inl (zne (zr (k := 56) (t2 := 105) hG ha rfl) ha (by decide))), e_s64, zU_at (Or.inl (zne (zr (k := 56) (t2 := 105) hG ha rfl) ha (by decide))), e_s57, zU_at (Or.inl (zne (zr (k := 56) (t2 := 105) hG ha rfl) ha (by decide))), (zFr_g hF_s30 ha (by decide))])
                            have f793 := zf hS_s29 ha (k := 23) rfl
                            have g794 : s68 a 24 = s29 a 24 := (by rw [e_s68, zU_at (Or.inl (zne (zr (k := 56) (t2 := 105) hG ha rfl) ha (by decide))), e_s67, zU_at (Or.inl (zne (zr (k := 56) (t2 := 105) hG ha rfl) ha (by decide))), e_s64, zU_at (Or.inl (zne (zr (k := 56) (t2 := 105) hG ha rfl) ha (by decide))), e_s57, zU_at (Or.inl (zne (zr (k := 56) (t2 := 105) hG ha rfl) ha (by decide))), (zFr_g hF_s30 ha (by decide))])
                            have f795 := zf hS_s29 ha (k := 24) rfl
                            have g796 : s68 a 38 = s29 a 38 := (by rw [e_s68, zU_at (Or.inl (zne (zr (k := 56) (t2 := 105) hG ha rfl) ha (by decide))), e_s67, zU_at (Or.inl (zne (zr (k := 56) (t2 := 105) hG ha rfl) ha (by decide))), e_s64, zU_at (Or.inl (zne (zr (k := 56) (t2 := 105) hG ha rfl) ha (by decide))), e_s57, zU_at (Or.inl (zne (zr (k := 56) (t2 := 105) hG ha rfl) ha (by decide))), (zFr_g hF_s30 ha (by decide))])
                            have f797 := zf hS_s29 ha (k := 38) rfl
                            have g798 : zc (s68 (gP G a 27)) = zc (s30 (gP G a 27)) := by rw [e_s68, zU_ne (zne (zr (k := 56) (t2 := 105) hG ha rfl) (zr (k := 27) (t2 := 84) hG ha rfl) (by decide)), e_s67, zU_ne (zne (zr (k := 56) (t2 := 105) hG ha rfl) (zr (k := 27) (t2 := 84) hG ha rfl) (by decide)), e_s64, zU_ne (zne (zr (k := 56) (t2 := 105) hG ha rfl) (zr (k := 27) (t2 := 84) hG ha rfl) (by decide)), e_s57, zU_ne (zne (zr (k := 56) (t2 := 105) hG ha rfl) (zr (k := 27) (t2 := 84) hG ha rfl) (by decide))]
                            have g799 : s68 (gP G a 27) 488 = s30 (gP G a 27) 488 := (by rw [e_s68, zU_at (Or.inl (zne (zr (k := 56) (t2 := 105) hG ha rfl) (zr (k := 27) (t2 := 84) hG ha rfl) (by decide))), e_s67, zU_at (Or.inl (zne (zr (k := 56) (t2 := 105) hG ha rfl) (zr (k := 27) (t2 := 84) hG ha rfl) (by decide))), e_s64, zU_at (Or.inl (zne (zr (k := 56) (t2 := 105) hG ha rfl) (zr (k := 27) (t2 := 84) hG ha rfl) (by decide))), e_s57, zU_at (Or.inl (zne (zr (k := 56) (t2 := 105) hG ha rfl) (zr (k := 27) (t2 := 84) hG ha rfl) (by decide)))])
                            exact j_sub [1, 2, 3, 4, 0] [(0, .ref a), (1, .int (zI x1)), (2, .int (zI x2)), (3, .int (zI x3)), (4, .int (zI (v92 + 1)))] rfl (ih_c71_11 (v92 + 1) s68 (by omega) (by omega) hS_s68 (zFr_u (zFr_u (zFr_u (zFr_u (zFr_t (zFr_t (zFr_t (zFr_t zFr_rf hF_s12 (by decide)) hF_s28 (by decide)) hF_s29 (by decide)) hF_s30 (by decide)) e_s57 (zr (k := 56) (t2 := 105) hG ha rfl) (by decide)) e_s64 (zr (k := 56) (t2 := 105) hG ha rfl) (by decide)) e_s67 (zr (k := 56) (t2 := 105) hG ha rfl) (by decide)) e_s68 (zr (k := 56) (t2 := 105) hG ha rfl) (by decide)) (by omega) (by omega) (by omega) (by omega) (by omega) (by omega) (by omega) (by omega) (by omega) (by omega) (by omega) (by omega))
                          · skip
                            refine j_iconst hx dX12_lot_200 ?_
                            refine j_goto hx 205 dX12_lot_201 rfl ?_
                            refine j_iadd hx (r := (s12 (gP G a 56) 5)) dX12_lot_205 (by omega) ?_
                            refine j_iast hx hG (zr (k := 56) (t2 := 105) hG ha rfl) (by decide) rfl (zlen hG (zr (k := 56) (t2 := 105) hG ha rfl) (n := 6) rfl rfl) (by omega) (by omega) (j := 5) rfl dX12_lot_206 ?_
                            obtain ⟨s69, e_s69⟩ : ∃ z, z = zU s67 (gP G a 56) 5 ((s12 (gP G a 56) 5)) := ⟨_, rfl⟩
                            rw [← e_s69]
                            have hS_s69 : zSK G s69 := by rw [e_s69]; exact zSK_A hS_s67 (zr (k := 56) (t2 := 105) hG ha rfl) rfl rfl rfl (by omega)
                            refine j_iinc hx 4 [(4, .int (zI (v92 + 1))), (0, .ref a), (1, .int (zI x1)), (2, .int (zI x2)), (3, .int (zI x3))] dX12_lot_207 rfl (by omega) (by decide) rfl ?_
                            refine j_goto hx 71 dX12_lot_210 rfl ?_
                            have g800 : s69 a 0 = s29 a 0 := (by rw [e_s69, zU_at (Or.inl (zne (zr (k := 56) (t2 := 105) hG ha rfl) ha (by decide))), e_s67, zU_at (Or.inl (zne (zr (k := 56) (t2 := 105) hG ha rfl) ha (by decide))), e_s64, zU_at (Or.inl (zne (zr (k := 56) (t2 := 105) hG ha rfl) ha (by decide))), e_s57, zU_at (Or.inl (zne (zr (k := 56) (t2 := 105) hG ha rfl) ha (by decide))), (zFr_g hF_s30 ha (by decide))])
                            have f801 := zf hS_s29 ha (k := 0) rfl
                            have g802 : s69 a 3 = s29 a 3 := (by rw [e_s69, zU_at (Or.inl (zne (zr (k := 56) (t2 := 105) hG ha rfl) ha (by decide))), e_s67, zU_at (Or.inl (zne (zr (k := 56) (t2 := 105) hG ha rfl) ha (by decide))), e_s64, zU_at (Or.inl (zne (zr (k := 56) (t2 := 105) hG ha rfl) ha (by decide))), e_s57, zU_at (Or.inl (zne (zr (k := 56) (t2 := 105) hG ha rfl) ha (by decide))), (zFr_g hF_s30 ha (by decide))])
                            have f803 := zf hS_s29 ha (k := 3) rfl
                            have g804 : s69 a 4 = s29 a 4 := (by rw [e_s69, zU_at (Or.inl (zne (zr (k := 56) (t2 := 105) hG ha rfl) ha (by decide))), e_s67, zU_at (Or.inl (zne (zr (k := 56) (t2 := 105) hG ha rfl) ha (by decide))), e_s64, zU_at (Or.inl (zne (zr (k := 56) (t2 := 105) hG ha rfl) ha (by decide))), e_s57, zU_at (Or.inl (zne (zr (k := 56) (t2 := 105) hG ha rfl) ha (by decide))), (zFr_g hF_s30 ha (by decide))])
                            have f805 := zf hS_s29 ha (k := 4) rfl
                            have g806 : s69 a 5 = s29 a 5 := (by rw [e_s69, zU_at (Or.inl (zne (zr (k := 56) (t2 := 105) hG ha rfl) ha (by decide))), e_s67, zU_at (Or.inl (zne (zr (k := 56) (t2 := 105) hG ha rfl) ha (by decide))), e_s64, zU_at (Or.inl (zne (zr (k := 56) (t2 := 105) hG ha rfl) ha (by decide))), e_s57, zU_at (Or.inl (zne (zr (k := 56) (t2 := 105) hG ha rfl) ha (by decide))), (zFr_g hF_s30 ha (by decide))])
                            have f807 := zf hS_s29 ha (k := 5) rfl
                            have g808 : s69 a 7 = s29 a 7 := (by rw [e_s69, zU_at (Or.inl (zne (zr (k := 56) (t2 := 105) hG ha rfl) ha (by decide))), e_s67, zU_at (Or.inl (zne (zr (k := 56) (t2 := 105) hG ha rfl) ha (by decide))), e_s64, zU_at (Or.inl (zne (zr (k := 56) (t2 := 105) hG ha rfl) ha (by decide))), e_s57, zU_at (Or.inl (zne (zr (k := 56) (t2 := 105) hG ha rfl) ha (by decide))), (zFr_g hF_s30 ha (by decide))])
                            have f809 := zf hS_s29 ha (k := 7) rfl
                            have g810 : s69 a 21 = s29 a 21 := (by rw [e_s69, zU_at (Or.inl (zne (zr (k := 56) (t2 := 105) hG ha rfl) ha (by decide))), e_s67, zU_at (Or.inl (zne (zr (k := 56) (t2 := 105) hG ha rfl) ha (by decide))), e_s64, zU_at (Or.inl (zne (zr (k := 56) (t2 := 105) hG ha rfl) ha (by decide))), e_s57, zU_at (Or.inl (zne (zr (k := 56) (t2 := 105) hG ha rfl) ha (by decide))), (zFr_g hF_s30 ha (by decide))])
                            have f811 := zf hS_s29 ha (k := 21) rfl
                            have g812 : s69 a 22 = s29 a 22 := (by rw [e_s69, zU_at (Or.inl (zne (zr (k := 56) (t2 := 105) hG ha rfl) ha (by decide))), e_s67, zU_at (Or.inl (zne (zr (k := 56) (t2 := 105) hG ha rfl) ha (by decide))), e_s64, zU_at (Or.inl (zne (zr (k := 56) (t2 := 105) hG ha rfl) ha (by decide))), e_s57, zU_at (Or.inl (zne (zr (k := 56) (t2 := 105) hG ha rfl) ha (by decide))), (zFr_g hF_s30 ha (by decide))])
                            have f813 := zf hS_s29 ha (k := 22) rfl
                            have g814 : s69 a 23 = s29 a 23 := (by rw [e_s69, zU_at (Or.inl (zne (zr (k := 56) (t2 := 105) hG ha rfl) ha (by decide))), e_s67, zU_at (Or.inl (zne (zr (k := 56) (t2 := 105) hG ha rfl) ha (by decide))), e_s64, zU_at (Or.inl (zne (zr (k := 56) (t2 := 105) hG ha rfl) ha (by decide))), e_s57, zU_at (Or.inl (zne (zr (k := 56) (t2 := 105) hG ha rfl) ha (by decide))), (zFr_g hF_s30 ha (by decide))])
                            have f815 := zf hS_s29 ha (k := 23) rfl
                            have g816 : s69 a 24 = s29 a 24 := (by rw [e_s69, zU_at (Or.inl (zne (zr (k := 56) (t2 := 105) hG ha rfl) ha (by decide))), e_s67, zU_at (Or.inl (zne (zr (k := 56) (t2 := 105) hG ha rfl) ha (by decide))), e_s64, zU_at (Or.inl (zne (zr (k := 56) (t2 := 105) hG ha rfl) ha (by decide))), e_s57, zU_at (Or.inl (zne (zr (k := 56) (t2 := 105) hG ha rfl) ha (by decide))), (zFr_g hF_s30 ha (by decide))])
                            have f817 := zf hS_s29 ha (k := 24) rfl
                            have g818 : s69 a 38 = s29 a 38 := (by rw [e_s69, zU_at (Or.inl (zne (zr (k := 56) (t2 := 105) hG ha rfl) ha (by decide))), e_s67, zU_at (Or.inl (zne (zr (k := 56) (t2 := 105) hG ha rfl) ha (by decide))), e_s64, zU_at (Or.inl (zne (zr (k := 56) (t2 := 105) hG ha rfl) ha (by decide))), e_s57, zU_at (Or.inl (zne (zr (k := 56) (t2 := 105) hG ha rfl) ha (by decide))), (zFr_g hF_s30 ha (by decide))])
                            have f819 := zf hS_s29 ha (k := 38) rfl
                            have g820 : zc (s69 (gP G a 27)) = zc (s30 (gP G a 27)) := by rw [e_s69, zU_ne (zne (zr (k := 56) (t2 := 105) hG ha rfl) (zr (k := 27) (t2 := 84) hG ha rfl) (by decide)), e_s67, zU_ne (zne (zr (k := 56) (t2 := 105) hG ha rfl) (zr (k := 27) (t2 := 84) hG ha rfl) (by decide)), e_s64, zU_ne (zne (zr (k := 56) (t2 := 105) hG ha rfl) (zr (k := 27) (t2 := 84) hG ha rfl) (by decide)), e_s57, zU_ne (zne (zr (k := 56) (t2 := 105) hG ha rfl) (zr (k := 27) (t2 := 84) hG ha rfl) (by decide))]
                            have g821 : s69 (gP G a 27) 488 = s30 (gP G a 27) 488 := (by rw [e_s69, zU_at (Or.inl (zne (zr (k := 56) (t2 := 105) hG ha rfl) (zr (k := 27) (t2 := 84) hG ha rfl) (by decide))), e_s67, zU_at (Or.inl (zne (zr (k := 56) (t2 := 105) hG ha rfl) (zr (k := 27) (t2 := 84) hG ha rfl) (by decide))), e_s64, zU_at (Or.inl (zne (zr (k := 56) (t2 := 105) hG ha rfl) (zr (k := 27) (t2 := 84) hG ha rfl) (by decide))), e_s57, zU_at (Or.inl (zne (zr (k := 56) (t2 := 105) hG ha rfl) (zr (k := 27) (t2 := 84) hG ha rfl) (by decide)))])
                            exact j_sub [1, 2, 3, 4, 0] [(0, .ref a), (1, .int (zI x1)), (2, .int (zI x2)), (3, .int (zI x3)), (4, .int (zI (v92 + 1)))] rfl (ih_c71_11 (v92 + 1) s69 (by omega) (by omega) hS_s69 (zFr_u (zFr_u (zFr_u (zFr_u (zFr_t (zFr_t (zFr_t (zFr_t zFr_rf hF_s12 (by decide)) hF_s28 (by decide)) hF_s29 (by decide)) hF_s30 (by decide)) e_s57 (zr (k := 56) (t2 := 105) hG ha rfl) (by decide)) e_s64 (zr (k := 56) (t2 := 105) hG ha rfl) (by decide)) e_s67 (zr (k := 56) (t2 := 105) hG ha rfl) (by decide)) e_s69 (zr (k := 56) (t2 := 105) hG ha rfl) (by decide)) (by omega) (by omega) (by omega) (by omega) (by omega) (by omega) (by omega) (by omega) (by omega) (by omega) (by omega) (by omega))
            exact j_sub [1, 2, 3, 4, 0] [(0, .ref a), (1, .int (zI x1)), (2, .int (zI x2)), (3, .int (zI x3)), (4, .int (zI 0))] rfl (c71_11 (2147483648 * 4) 0 s10 (by omega) (by omega) hS_s10 zFr_rf (by omega) (by omega) (by omega) (by omega) (by omega) (by omega) (by omega) (by omega) (by omega) (by omega) (by omega) (by omega))
          · skip
            refine j_aload_n hx 0 dX12_lot_50 rfl ?_
            refine g13_56 hx hG ha kf_RX12_121 dX12_lot_51 ?_
            refine j_iload hx 4 dX12_lot_54 rfl ?_
            refine j_iconst hx dX12_lot_56 ?_
            refine j_iast hx hG (zr (k := 56) (t2 := 105) hG ha rfl) (by decide) rfl (zlen hG (zr (k := 56) (t2 := 105) hG ha rfl) (n := 6) rfl rfl) (by omega) (by omega) (j := (v85).toNat) rfl dX12_lot_57 ?_
            obtain ⟨s70, e_s70⟩ : ∃ z, z = zU s5 (gP G a 56) (v85).toNat 0 := ⟨_, rfl⟩
            rw [← e_s70]
            have hS_s70 : zSK G s70 := by rw [e_s70]; exact zSK_A hS_s5 (zr (k := 56) (t2 := 105) hG ha rfl) rfl rfl rfl (by omega)
            refine j_iinc hx 4 [(4, .int (zI (v85 + 1))), (0, .ref a), (1, .int (zI x1)), (2, .int (zI x2)), (3, .int (zI x3))] dX12_lot_58 rfl (by omega) (by decide) rfl ?_
            refine j_goto hx 43 dX12_lot_61 rfl ?_
            have g822 : s70 (gP G a 27) 488 = s0 (gP G a 27) 488 := (by rw [e_s70, zU_at (Or.inl (zne (zr (k := 56) (t2 := 105) hG ha rfl) (zr (k := 27) (t2 := 84) hG ha rfl) (by decide))), (zFr_g hF_s5 (zr (k := 27) (t2 := 84) hG ha rfl) (by decide)), e_s1, zU_at (Or.inl (zne ha (zr (k := 27) (t2 := 84) hG ha rfl) (by decide)))])
            exact j_sub [1, 2, 3, 4, 0] [(0, .ref a), (1, .int (zI x1)), (2, .int (zI x2)), (3, .int (zI x3)), (4, .int (zI (v85 + 1)))] rfl (ih_c43_4 (v85 + 1) s70 (by omega) (by omega) hS_s70 (zFr_u (zFr_t zFr_rf hF_s5 (by decide)) e_s70 (zr (k := 56) (t2 := 105) hG ha rfl) (by decide)) (by omega))
      exact j_sub [1, 2, 3, 4, 0] [(0, .ref a), (1, .int (zI x1)), (2, .int (zI x2)), (3, .int (zI x3)), (4, .int (zI 0))] rfl (c43_4 (2147483648 * 4) 0 s1 (by omega) (by omega) hS_s1 zFr_rf (by omega))

set_option maxHeartbeats 1200000 in
set_option maxRecDepth 20000 in
theorem c_X12_film {E : zE} {l : Launch} (hst : l.stackTraces = false) (a : Nat) (x1 : Int) (x2 : Int) (x3 : Int) (x4 : Int) (x5 : Int) : Con E l yX12_film cX12_film 10 (some .int) { frames := 1, cells := 0, slots := 0, locals := 23 } (fun G s vs => vs = [.ref a, .int (zI x1), .int (zI x2), .int (zI x3), .int (zI x4), .int (zI x5)] ∧ zGK G ∧ zSK G s ∧ (gT G a = 13) ∧ ((-2147483648) ≤ x1 ∧ x1 ≤ 2147483647) ∧ ((-2147483648) ≤ x2 ∧ x2 ≤ 2147483647) ∧ ((-2147483648) ≤ x3 ∧ x3 ≤ 2147483647) ∧ ((-2147483648) ≤ x4 ∧ x4 ≤ 2147483647) ∧ ((-2147483648) ≤ x5 ∧ x5 ≤ 2147483647)) (fun G s _ => pI (fun r G2 s2 => G2 = G ∧ zSK G s2 ∧ zFr [13, 71] G s s2 ∧ ((-2147483648) ≤ r ∧ r ≤ 2147483647) ∧ s2 a 3 = s a 3 ∧ s2 a 4 = s a 4 ∧ s2 a 5 = s a 5 ∧ s2 a 7 = s a 7 ∧ s2 a 21 = s a 21 ∧ s2 a 22 = s a 22 ∧ s2 a 23 = s a 23 ∧ s2 a 24 = s a 24 ∧ s2 a 38 = s a 38 ∧ s2 a 51 = s a 51 ∧ s2 a 52 = s a 52)) := by
  refine Con.mk hst (by decide) (fun G s vs h => by rw [h.1]; exact Nat.le_of_ble_eq_true rfl) ?_
  rintro X G s0 vs ⟨rfl, hG, hS0, ha, hx1, hx2, hx3, hx4, hx5⟩ rfl hx hq
  show JJ X E 10 G s0 0 0 [(0, .ref a), (1, .int (zI x1)), (2, .int (zI x2)), (3, .int (zI x3)), (4, .int (zI x4)), (5, .int (zI x5))] 0 []
  refine j_aload_n hx 0 dX12_film_0 rfl ?_
  refine j_iconst hx dX12_film_1 ?_
  refine p13_0 hx hG ha kf_RX12_3 dX12_film_2 ?_
  obtain ⟨s1, e_s1⟩ : ∃ z, z = zU s0 a 0 0 := ⟨_, rfl⟩
  rw [← e_s1]
  have hS_s1 : zSK G s1 := by rw [e_s1]; exact zSK_F hS0 ha rfl rfl rfl (by omega)
  refine j_aload_n hx 0 dX12_film_5 rfl ?_
  refine j_iload_n hx 1 dX12_film_6 rfl ?_
  refine j_iconst hx dX12_film_7 ?_
  refine j_iload_n hx 2 dX12_film_8 rfl ?_
  refine j_callS hx (c_X12_within hst x1 0 x2) lk_RX12_314 [.int (zI x1), .int (zI 0), .int (zI x2)] ⟨rfl, hG, hS_s1, (by omega), (by omega), (by omega)⟩ rfl rfl ⟨by decide, by decide⟩ ⟨by decide, by decide⟩ (k2 := 0) (n2 := 0) rfl rfl (Nat.le_of_ble_eq_true rfl) dX12_film_9 (kIP (fun v1 q2 => ?_))
  refine j_if_eq hx 52 dX12_film_12 rfl (by omega) (fun h3 => ?_) (fun h3 => ?_)
  · skip
    refine j_iconst hx dX12_film_52 ?_
    refine j_iconst hx dX12_film_53 ?_
    refine j_iconst hx dX12_film_54 ?_
    have g4 : s1 a 0 = 0 := (by rw [e_s1, zU_eq])
    have g5 : s1 a 3 = s0 a 3 := (by rw [e_s1, zU_at (Or.inr (by decide))])
    have f6 := zf hS0 ha (k := 3) rfl
    have g7 : s1 a 4 = s0 a 4 := (by rw [e_s1, zU_at (Or.inr (by decide))])
    have f8 := zf hS0 ha (k := 4) rfl
    have g9 : s1 a 5 = s0 a 5 := (by rw [e_s1, zU_at (Or.inr (by decide))])
    have f10 := zf hS0 ha (k := 5) rfl
    have g11 : s1 a 7 = s0 a 7 := (by rw [e_s1, zU_at (Or.inr (by decide))])
    have f12 := zf hS0 ha (k := 7) rfl
    have g13 : s1 a 21 = s0 a 21 := (by rw [e_s1, zU_at (Or.inr (by decide))])
    have f14 := zf hS0 ha (k := 21) rfl
    have g15 : s1 a 22 = s0 a 22 := (by rw [e_s1, zU_at (Or.inr (by decide))])
    have f16 := zf hS0 ha (k := 22) rfl
    have g17 : s1 a 23 = s0 a 23 := (by rw [e_s1, zU_at (Or.inr (by decide))])
    have f18 := zf hS0 ha (k := 23) rfl
    have g19 : s1 a 24 = s0 a 24 := (by rw [e_s1, zU_at (Or.inr (by decide))])
    have f20 := zf hS0 ha (k := 24) rfl
    have g21 : s1 a 38 = s0 a 38 := (by rw [e_s1, zU_at (Or.inr (by decide))])
    have f22 := zf hS0 ha (k := 38) rfl
    have g23 : s1 a 51 = s0 a 51 := (by rw [e_s1, zU_at (Or.inr (by decide))])
    have f24 := zf hS0 ha (k := 51) rfl
    have g25 : s1 a 52 = s0 a 52 := (by rw [e_s1, zU_at (Or.inr (by decide))])
    have f26 := zf hS0 ha (k := 52) rfl
    refine j_callV hx hG (c_X12_may_f hst a 0 1 1) lk_RX12_240 ha (by decide) rfl rfl rfl rfl [.int (zI 0), .int (zI 1), .int (zI 1)] ⟨rfl, hG, hS_s1, ha, (by omega), (by omega), (by omega), (((by rw [e_s1, zU_eq]) : s1 a 0 = 0).trans (by omega))⟩ rfl rfl ⟨by decide, by decide⟩ ⟨by decide, by decide⟩ (k2 := 0) (n2 := 0) rfl rfl (Nat.le_of_ble_eq_true rfl) dX12_film_55 (kIM (fun v27 s2 hS_s2 hF_s2 q28 => ?_))
    refine j_if_ne hx 63 dX12_film_58 rfl (by omega) (fun h29 => absurd h29 (by omega)) (fun h29 => ?_)
    refine j_iconst hx dX12_film_61 ?_
    have f30 := zf hS_s2 ha (k := 3) rfl
    have f31 := zf hS_s2 ha (k := 4) rfl
    have f32 := zf hS_s2 ha (k := 5) rfl
    have f33 := zf hS_s2 ha (k := 7) rfl
    have f34 := zf hS_s2 ha (k := 21) rfl
    have f35 := zf hS_s2 ha (k := 22) rfl
    have f36 := zf hS_s2 ha (k := 23) rfl
    have f37 := zf hS_s2 ha (k := 24) rfl
    have f38 := zf hS_s2 ha (k := 38) rfl
    have f39 := zf hS_s2 ha (k := 51) rfl
    have f40 := zf hS_s2 ha (k := 52) rfl
    exact j_iret hx hq rfl (by decide) (by decide) dX12_film_62 ⟨0, rfl, rfl, hS_s2, (zFr_t (zFr_u zFr_rf e_s1 ha (by decide)) hF_s2 (by decide)), ⟨(by omega), by omega, by omega, by omega, by omega, by omega, by omega, by omega, by omega, by omega, by omega, by omega⟩⟩
  · skip
    refine j_iload_n hx 2 dX12_film_15 rfl ?_
    refine j_bipush hx dX12_film_16 rfl ?_
    refine j_icmp_gt hx 52 dX12_film_18 rfl (by omega) ⟨by decide, by decide⟩ (fun h41 => ?_) (fun h41 => ?_)
    · skip
      refine j_iconst hx dX12_film_52 ?_
      refine j_iconst hx dX12_film_53 ?_
      refine j_iconst hx dX12_film_54 ?_
      have g42 : s1 a 0 = 0 := (by rw [e_s1, zU_eq])
      have g43 : s1 a 3 = s0 a 3 := (by rw [e_s1, zU_at (Or.inr (by decide))])
      have f44 := zf hS0 ha (k := 3) rfl
      have g45 : s1 a 4 = s0 a 4 := (by rw [e_s1, zU_at (Or.inr (by decide))])
      have f46 := zf hS0 ha (k := 4) rfl
      have g47 : s1 a 5 = s0 a 5 := (by rw [e_s1, zU_at (Or.inr (by decide))])
      have f48 := zf hS0 ha (k := 5) rfl
      have g49 : s1 a 7 = s0 a 7 := (by rw [e_s1, zU_at (Or.inr (by decide))])
      have f50 := zf hS0 ha (k := 7) rfl
      have g51 : s1 a 21 = s0 a 21 := (by rw [e_s1, zU_at (Or.inr (by decide))])
      have f52 := zf hS0 ha (k := 21) rfl
      have g53 : s1 a 22 = s0 a 22 := (by rw [e_s1, zU_at (Or.inr (by decide))])
      have f54 := zf hS0 ha (k := 22) rfl
      have g55 : s1 a 23 = s0 a 23 := (by rw [e_s1, zU_at (Or.inr (by decide))])
      have f56 := zf hS0 ha (k := 23) rfl
      have g57 : s1 a 24 = s0 a 24 := (by rw [e_s1, zU_at (Or.inr (by decide))])
      have f58 := zf hS0 ha (k := 24) rfl
      have g59 : s1 a 38 = s0 a 38 := (by rw [e_s1, zU_at (Or.inr (by decide))])
      have f60 := zf hS0 ha (k := 38) rfl
      have g61 : s1 a 51 = s0 a 51 := (by rw [e_s1, zU_at (Or.inr (by decide))])
      have f62 := zf hS0 ha (k := 51) rfl
      have g63 : s1 a 52 = s0 a 52 := (by rw [e_s1, zU_at (Or.inr (by decide))])
      have f64 := zf hS0 ha (k := 52) rfl
      refine j_callV hx hG (c_X12_may_f hst a 0 1 1) lk_RX12_240 ha (by decide) rfl rfl rfl rfl [.int (zI 0), .int (zI 1), .int (zI 1)] ⟨rfl, hG, hS_s1, ha, (by omega), (by omega), (by omega), (((by rw [e_s1, zU_eq]) : s1 a 0 = 0).trans (by omega))⟩ rfl rfl ⟨by decide, by decide⟩ ⟨by decide, by decide⟩ (k2 := 0) (n2 := 0) rfl rfl (Nat.le_of_ble_eq_true rfl) dX12_film_55 (kIM (fun v65 s3 hS_s3 hF_s3 q66 => ?_))
      refine j_if_ne hx 63 dX12_film_58 rfl (by omega) (fun h67 => absurd h67 (by omega)) (fun h67 => ?_)
      refine j_iconst hx dX12_film_61 ?_
      have f68 := zf hS_s3 ha (k := 3) rfl
      have f69 := zf hS_s3 ha (k := 4) rfl
      have f70 := zf hS_s3 ha (k := 5) rfl
      have f71 := zf hS_s3 ha (k := 7) rfl
      have f72 := zf hS_s3 ha (k := 21) rfl
      have f73 := zf hS_s3 ha (k := 22) rfl
      have f74 := zf hS_s3 ha (k := 23) rfl
      have f75 := zf hS_s3 ha (k := 24) rfl
      have f76 := zf hS_s3 ha (k := 38) rfl
      have f77 := zf hS_s3 ha (k := 51) rfl
      have f78 := zf hS_s3 ha (k := 52) rfl
      exact j_iret hx hq rfl (by decide) (by decide) dX12_film_62 ⟨0, rfl, rfl, hS_s3, (zFr_t (zFr_u zFr_rf e_s1 ha (by decide)) hF_s3 (by decide)), ⟨(by omega), by omega, by omega, by omega, by omega, by omega, by omega, by omega, by omega, by omega, by omega, by omega⟩⟩
    · skip
      refine j_iload_n hx 3 dX12_film_21 rfl ?_
      refine j_iconst hx dX12_film_22 ?_
      refine j_iload hx 4 dX12_film_23 rfl ?_
      refine j_callS hx (c_X12_within hst x3 0 x4) lk_RX12_314 [.int (zI x3), .int (zI 0), .int (zI x4)] ⟨rfl, hG, hS_s1, (by omega), (by omega), (by omega)⟩ rfl rfl ⟨by decide, by decide⟩ ⟨by decide, by decide⟩ (k2 := 0) (n2 := 0) rfl rfl (Nat.le_of_ble_eq_true rfl) dX12_film_25 (kIP (fun v79 q80 => ?_))
      refine j_if_eq hx 52 dX12_film_28 rfl (by omega) (fun h81 => ?_) (fun h81 => ?_)
      · skip
        refine j_iconst hx dX12_film_52 ?_
        refine j_iconst hx dX12_film_53 ?_
        refine j_iconst hx dX12_film_54 ?_
        have g82 : s1 a 0 = 0 := (by rw [e_s1, zU_eq])
        have g83 : s1 a 3 = s0 a 3 := (by rw [e_s1, zU_at (Or.inr (by decide))])
        have f84 := zf hS0 ha (k := 3) rfl
        have g85 : s1 a 4 = s0 a 4 := (by rw [e_s1, zU_at (Or.inr (by decide))])
        have f86 := zf hS0 ha (k := 4) rfl
        have g87 : s1 a 5 = s0 a 5 := (by rw [e_s1, zU_at (Or.inr (by decide))])
        have f88 := zf hS0 ha (k := 5) rfl
        have g89 : s1 a 7 = s0 a 7 := (by rw [e_s1, zU_at (Or.inr (by decide))])
        have f90 := zf hS0 ha (k := 7) rfl
        have g91 : s1 a 21 = s0 a 21 := (by rw [e_s1, zU_at (Or.inr (by decide))])
        have f92 := zf hS0 ha (k := 21) rfl
        have g93 : s1 a 22 = s0 a 22 := (by rw [e_s1, zU_at (Or.inr (by decide))])
        have f94 := zf hS0 ha (k := 22) rfl
        have g95 : s1 a 23 = s0 a 23 := (by rw [e_s1, zU_at (Or.inr (by decide))])
        have f96 := zf hS0 ha (k := 23) rfl
        have g97 : s1 a 24 = s0 a 24 := (by rw [e_s1, zU_at (Or.inr (by decide))])
        have f98 := zf hS0 ha (k := 24) rfl
        have g99 : s1 a 38 = s0 a 38 := (by rw [e_s1, zU_at (Or.inr (by decide))])
        have f100 := zf hS0 ha (k := 38) rfl
        have g101 : s1 a 51 = s0 a 51 := (by rw [e_s1, zU_at (Or.inr (by decide))])
        have f102 := zf hS0 ha (k := 51) rfl
        have g103 : s1 a 52 = s0 a 52 := (by rw [e_s1, zU_at (Or.inr (by decide))])
        have f104 := zf hS0 ha (k := 52) rfl
        refine j_callV hx hG (c_X12_may_f hst a 0 1 1) lk_RX12_240 ha (by decide) rfl rfl rfl rfl [.int (zI 0), .int (zI 1), .int (zI 1)] ⟨rfl, hG, hS_s1, ha, (by omega), (by omega), (by omega), (((by rw [e_s1, zU_eq]) : s1 a 0 = 0).trans (by omega))⟩ rfl rfl ⟨by decide, by decide⟩ ⟨by decide, by decide⟩ (k2 := 0) (n2 := 0) rfl rfl (Nat.le_of_ble_eq_true rfl) dX12_film_55 (kIM (fun v105 s4 hS_s4 hF_s4 q106 => ?_))
        refine j_if_ne hx 63 dX12_film_58 rfl (by omega) (fun h107 => absurd h107 (by omega)) (fun h107 => ?_)
        refine j_iconst hx dX12_film_61 ?_
        have f108 := zf hS_s4 ha (k := 3) rfl
        have f109 := zf hS_s4 ha (k := 4) rfl
        have f110 := zf hS_s4 ha (k := 5) rfl
        have f111 := zf hS_s4 ha (k := 7) rfl
        have f112 := zf hS_s4 ha (k := 21) rfl
        have f113 := zf hS_s4 ha (k := 22) rfl
        have f114 := zf hS_s4 ha (k := 23) rfl
        have f115 := zf hS_s4 ha (k := 24) rfl
        have f116 := zf hS_s4 ha (k := 38) rfl
        have f117 := zf hS_s4 ha (k := 51) rfl
        have f118 := zf hS_s4 ha (k := 52) rfl
        exact j_iret hx hq rfl (by decide) (by decide) dX12_film_62 ⟨0, rfl, rfl, hS_s4, (zFr_t (zFr_u zFr_rf e_s1 ha (by decide)) hF_s4 (by decide)), ⟨(by omega), by omega, by omega, by omega, by omega, by omega, by omega, by omega, by omega, by omega, by omega, by omega⟩⟩
      · skip
        refine j_iload hx 4 dX12_film_31 rfl ?_
        refine j_bipush hx dX12_film_33 rfl ?_
        refine j_icmp_gt hx 52 dX12_film_35 rfl (by omega) ⟨by decide, by decide⟩ (fun h119 => ?_) (fun h119 => ?_)
        · skip
          refine j_iconst hx dX12_film_52 ?_
          refine j_iconst hx dX12_film_53 ?_
          refine j_iconst hx dX12_film_54 ?_
          have g120 : s1 a 0 = 0 := (by rw [e_s1, zU_eq])
          have g121 : s1 a 3 = s0 a 3 := (by rw [e_s1, zU_at (Or.inr (by decide))])
          have f122 := zf hS0 ha (k := 3) rfl
          have g123 : s1 a 4 = s0 a 4 := (by rw [e_s1, zU_at (Or.inr (by decide))])
          have f124 := zf hS0 ha (k := 4) rfl
          have g125 : s1 a 5 = s0 a 5 := (by rw [e_s1, zU_at (Or.inr (by decide))])
          have f126 := zf hS0 ha (k := 5) rfl
          have g127 : s1 a 7 = s0 a 7 := (by rw [e_s1, zU_at (Or.inr (by decide))])
          have f128 := zf hS0 ha (k := 7) rfl
          have g129 : s1 a 21 = s0 a 21 := (by rw [e_s1, zU_at (Or.inr (by decide))])
          have f130 := zf hS0 ha (k := 21) rfl
          have g131 : s1 a 22 = s0 a 22 := (by rw [e_s1, zU_at (Or.inr (by decide))])
          have f132 := zf hS0 ha (k := 22) rfl
          have g133 : s1 a 23 = s0 a 23 := (by rw [e_s1, zU_at (Or.inr (by decide))])
          have f134 := zf hS0 ha (k := 23) rfl
          have g135 : s1 a 24 = s0 a 24 := (by rw [e_s1, zU_at (Or.inr (by decide))])
          have f136 := zf hS0 ha (k := 24) rfl
          have g137 : s1 a 38 = s0 a 38 := (by rw [e_s1, zU_at (Or.inr (by decide))])
          have f138 := zf hS0 ha (k := 38) rfl
          have g139 : s1 a 51 = s0 a 51 := (by rw [e_s1, zU_at (Or.inr (by decide))])
          have f140 := zf hS0 ha (k := 51) rfl
          have g141 : s1 a 52 = s0 a 52 := (by rw [e_s1, zU_at (Or.inr (by decide))])
          have f142 := zf hS0 ha (k := 52) rfl
          refine j_callV hx hG (c_X12_may_f hst a 0 1 1) lk_RX12_240 ha (by decide) rfl rfl rfl rfl [.int (zI 0), .int (zI 1), .int (zI 1)] ⟨rfl, hG, hS_s1, ha, (by omega), (by omega), (by omega), (((by rw [e_s1, zU_eq]) : s1 a 0 = 0).trans (by omega))⟩ rfl rfl ⟨by decide, by decide⟩ ⟨by decide, by decide⟩ (k2 := 0) (n2 := 0) rfl rfl (Nat.le_of_ble_eq_true rfl) dX12_film_55 (kIM (fun v143 s5 hS_s5 hF_s5 q144 => ?_))
          refine j_if_ne hx 63 dX12_film_58 rfl (by omega) (fun h145 => absurd h145 (by omega)) (fun h145 => ?_)
          refine j_iconst hx dX12_film_61 ?_
          have f146 := zf hS_s5 ha (k := 3) rfl
          have f147 := zf hS_s5 ha (k := 4) rfl
          have f148 := zf hS_s5 ha (k := 5) rfl
          have f149 := zf hS_s5 ha (k := 7) rfl
          have f150 := zf hS_s5 ha (k := 21) rfl
          have f151 := zf hS_s5 ha (k := 22) rfl
          have f152 := zf hS_s5 ha (k := 23) rfl
          have f153 := zf hS_s5 ha (k := 24) rfl
          have f154 := zf hS_s5 ha (k := 38) rfl
          have f155 := zf hS_s5 ha (k := 51) rfl
          have f156 := zf hS_s5 ha (k := 52) rfl
          exact j_iret hx hq rfl (by decide) (by decide) dX12_film_62 ⟨0, rfl, rfl, hS_s5, (zFr_t (zFr_u zFr_rf e_s1 ha (by decide)) hF_s5 (by decide)), ⟨(by omega), by omega, by omega, by omega, by omega, by omega, by omega, by omega, by omega, by omega, by omega, by omega⟩⟩
        · skip
          refine j_iload hx 5 dX12_film_38 rfl ?_
          refine j_iconst hx dX12_film_40 ?_
          refine j_iconst hx dX12_film_41 ?_
          refine j_callS hx (c_X12_within hst x5 0 2) lk_RX12_314 [.int (zI x5), .int (zI 0), .int (zI 2)] ⟨rfl, hG, hS_s1, (by omega), (by omega), (by omega)⟩ rfl rfl ⟨by decide, by decide⟩ ⟨by decide, by decide⟩ (k2 := 0) (n2 := 0) rfl rfl (Nat.le_of_ble_eq_true rfl) dX12_film_42 (kIP (fun v157 q158 => ?_))
          refine j_if_eq hx 52 dX12_film_45 rfl (by omega) (fun h159 => ?_) (fun h159 => ?_)
          · skip
            refine j_iconst hx dX12_film_52 ?_
            refine j_iconst hx dX12_film_53 ?_
            refine j_iconst hx dX12_film_54 ?_
            have g160 : s1 a 0 = 0 := (by rw [e_s1, zU_eq])
            have g161 : s1 a 3 = s0 a 3 := (by rw [e_s1, zU_at (Or.inr (by decide))])
            have f162 := zf hS0 ha (k := 3) rfl
            have g163 : s1 a 4 = s0 a 4 := (by rw [e_s1, zU_at (Or.inr (by decide))])
            have f164 := zf hS0 ha (k := 4) rfl
            have g165 : s1 a 5 = s0 a 5 := (by rw [e_s1, zU_at (Or.inr (by decide))])
            have f166 := zf hS0 ha (k := 5) rfl
            have g167 : s1 a 7 = s0 a 7 := (by rw [e_s1, zU_at (Or.inr (by decide))])
            have f168 := zf hS0 ha (k := 7) rfl
            have g169 : s1 a 21 = s0 a 21 := (by rw [e_s1, zU_at (Or.inr (by decide))])
            have f170 := zf hS0 ha (k := 21) rfl
            have g171 : s1 a 22 = s0 a 22 := (by rw [e_s1, zU_at (Or.inr (by decide))])
            have f172 := zf hS0 ha (k := 22) rfl
            have g173 : s1 a 23 = s0 a 23 := (by rw [e_s1, zU_at (Or.inr (by decide))])
            have f174 := zf hS0 ha (k := 23) rfl
            have g175 : s1 a 24 = s0 a 24 := (by rw [e_s1, zU_at (Or.inr (by decide))])
            have f176 := zf hS0 ha (k := 24) rfl
            have g177 : s1 a 38 = s0 a 38 := (by rw [e_s1, zU_at (Or.inr (by decide))])
            have f178 := zf hS0 ha (k := 38) rfl
            have g179 : s1 a 51 = s0 a 51 := (by rw [e_s1, zU_at (Or.inr (by decide))])
            have f180 := zf hS0 ha (k := 51) rfl
            have g181 : s1 a 52 = s0 a 52 := (by rw [e_s1, zU_at (Or.inr (by decide))])
            have f182 := zf hS0 ha (k := 52) rfl
            refine j_callV hx hG (c_X12_may_f hst a 0 1 1) lk_RX12_240 ha (by decide) rfl rfl rfl rfl [.int (zI 0), .int (zI 1), .int (zI 1)] ⟨rfl, hG, hS_s1, ha, (by omega), (by omega), (by omega), (((by rw [e_s1, zU_eq]) : s1 a 0 = 0).trans (by omega))⟩ rfl rfl ⟨by decide, by decide⟩ ⟨by decide, by decide⟩ (k2 := 0) (n2 := 0) rfl rfl (Nat.le_of_ble_eq_true rfl) dX12_film_55 (kIM (fun v183 s6 hS_s6 hF_s6 q184 => ?_))
            refine j_if_ne hx 63 dX12_film_58 rfl (by omega) (fun h185 => absurd h185 (by omega)) (fun h185 => ?_)
            refine j_iconst hx dX12_film_61 ?_
            have f186 := zf hS_s6 ha (k := 3) rfl
            have f187 := zf hS_s6 ha (k := 4) rfl
            have f188 := zf hS_s6 ha (k := 5) rfl
            have f189 := zf hS_s6 ha (k := 7) rfl
            have f190 := zf hS_s6 ha (k := 21) rfl
            have f191 := zf hS_s6 ha (k := 22) rfl
            have f192 := zf hS_s6 ha (k := 23) rfl
            have f193 := zf hS_s6 ha (k := 24) rfl
            have f194 := zf hS_s6 ha (k := 38) rfl
            have f195 := zf hS_s6 ha (k := 51) rfl
            have f196 := zf hS_s6 ha (k := 52) rfl
            exact j_iret hx hq rfl (by decide) (by decide) dX12_film_62 ⟨0, rfl, rfl, hS_s6, (zFr_t (zFr_u zFr_rf e_s1 ha (by decide)) hF_s6 (by decide)), ⟨(by omega), by omega, by omega, by omega, by omega, by omega, by omega, by omega, by omega, by omega, by omega, by omega⟩⟩
          · skip
            refine j_iconst hx dX12_film_48 ?_
            refine j_goto hx 53 dX12_film_49 rfl ?_
            refine j_iconst hx dX12_film_53 ?_
            refine j_iconst hx dX12_film_54 ?_
            have g197 : s1 a 0 = 0 := (by rw [e_s1, zU_eq])
            refine j_callV hx hG (c_X12_may_t hst a 1 1 1) lk_RX12_240 ha (by decide) rfl rfl rfl rfl [.int (zI 1), .int (zI 1), .int (zI 1)] ⟨rfl, hG, hS_s1, ha, (by omega), (by omega), (by omega), (((by rw [e_s1, zU_eq]) : s1 a 0 = 0).trans (by omega))⟩ rfl rfl ⟨by decide, by decide⟩ ⟨by decide, by decide⟩ (k2 := 0) (n2 := 0) rfl rfl (Nat.le_of_ble_eq_true rfl) dX12_film_55 (kIP (fun v198 q199 => ?_))
            refine j_if_ne hx 63 dX12_film_58 rfl (by omega) (fun h200 => ?_) (fun h200 => absurd h200 (by omega))
            refine j_iconst hx dX12_film_63 ?_
            refine j_istore hx [(6, .int (zI 0)), (0, .ref a), (1, .int (zI x1)), (2, .int (zI x2)), (3, .int (zI x3)), (4, .int (zI x4)), (5, .int (zI x5))] dX12_film_64 (by decide) rfl ?_
            refine j_iconst hx dX12_film_66 ?_
            refine j_istore hx [(7, .int (zI 0)), (6, .int (zI 0)), (0, .ref a), (1, .int (zI x1)), (2, .int (zI x2)), (3, .int (zI x3)), (4, .int (zI x4)), (5, .int (zI x5))] dX12_film_67 (by decide) rfl ?_
            refine j_iload_n hx 3 dX12_film_69 rfl ?_
            refine j_istore hx [(8, .int (zI x1)), (7, .int (zI 0)), (6, .int (zI 0)), (0, .ref a), (1, .int (zI x1)), (2, .int (zI x2)), (3, .int (zI x3)), (4, .int (zI x4)), (5, .int (zI x5))] dX12_film_70 (by decide) rfl ?_
            have c72_7 : ∀ (m_c72_7 : Nat) (v201 : Int) (v202 : Int) (v203 : Int), 2147483648 - v203 < m_c72_7 → ((-2147483648) ≤ v201 ∧ v201 ≤ 2147483647) → ((-2147483648) ≤ v202 ∧ v202 ≤ 2147483647) → ((-2147483648) ≤ v203 ∧ v203 ≤ 2147483647) → JJ X E 10 G s1 0 0 [(1, .int (zI x1)), (2, .int (zI x2)), (3, .int (zI x3)), (4, .int (zI x4)), (5, .int (zI x5)), (6, .int (zI v201)), (7, .int (zI v202)), (8, .int (zI v203))] 72 [] := by
              intro m_c72_7
              induction m_c72_7 with
              | zero => intro v201 v202 v203 hm_c72_7 fA8 fA9 fA10; exfalso; omega
              | succ m_c72_7 ih_c72_7 => 
                intro v201 v202 v203 hm_c72_7 fA8 fA9 fA10
                refine j_iload hx 7 dX12_film_72 rfl ?_
                refine j_iload_n hx 1 dX12_film_74 rfl ?_
                refine j_icmp_gt hx 134 dX12_film_75 rfl (by omega) (by omega) (fun h204 => ?_) (fun h204 => ?_)
                · skip
                  refine j_iload hx 4 dX12_film_134 rfl ?_
                  refine j_if_ne hx 144 dX12_film_136 rfl (by omega) (fun h205 => ?_) (fun h205 => ?_)
                  · skip
                    refine j_iload hx 4 dX12_film_144 rfl ?_
                    refine j_iconst hx dX12_film_146 ?_
                    refine j_icmp_ne hx 155 dX12_film_147 rfl (by omega) ⟨by decide, by decide⟩ (fun h206 => ?_) (fun h206 => ?_)
                    · skip
                      refine j_iload_n hx 1 dX12_film_155 rfl ?_
                      refine j_iload_n hx 0 dX12_film_156 rfl ?_
                      refine j_isub hx (r := x2 - x1) dX12_film_157 rfl ?_
                      refine j_iconst hx dX12_film_158 ?_
                      refine j_iadd hx (r := x2 - x1 + 1) dX12_film_159 (by omega) ?_
                      refine j_iload hx 3 dX12_film_160 rfl ?_
                      refine j_iload_n hx 2 dX12_film_162 rfl ?_
                      refine j_isub hx (r := x4 - x3) dX12_film_163 rfl ?_
                      refine j_iconst hx dX12_film_164 ?_
                      refine j_iadd hx (r := x4 - x3 + 1) dX12_film_165 (by omega) ?_
                      refine j_imul hx (r := ((x2 - x1 + 1) * (x4 - x3 + 1))) dX12_film_166 rfl ?_
                      have f207 : 0 ≤ ((x2 - x1 + 1) * (x4 - x3 + 1)) ∧ ((x2 - x1 + 1) * (x4 - x3 + 1)) ≤ 100 * 100 := zmulnn (by omega) (by omega)
                      have g208 : s1 a 3 = s0 a 3 := (by rw [e_s1, zU_at (Or.inr (by decide))])
                      have f209 := zf hS0 ha (k := 3) rfl
                      have g210 : s1 a 4 = s0 a 4 := (by rw [e_s1, zU_at (Or.inr (by decide))])
                      have f211 := zf hS0 ha (k := 4) rfl
                      have g212 : s1 a 5 = s0 a 5 := (by rw [e_s1, zU_at (Or.inr (by decide))])
                      have f213 := zf hS0 ha (k := 5) rfl
                      have g214 : s1 a 7 = s0 a 7 := (by rw [e_s1, zU_at (Or.inr (by decide))])
                      have f215 := zf hS0 ha (k := 7) rfl
                      have g216 : s1 a 21 = s0 a 21 := (by rw [e_s1, zU_at (Or.inr (by decide))])
                      have f217 := zf hS0 ha (k := 21) rfl
                      have g218 : s1 a 22 = s0 a 22 := (by rw [e_s1, zU_at (Or.inr (by decide))])
                      have f219 := zf hS0 ha (k := 22) rfl
                      have g220 : s1 a 23 = s0 a 23 := (by rw [e_s1, zU_at (Or.inr (by decide))])
                      have f221 := zf hS0 ha (k := 23) rfl
                      have g222 : s1 a 24 = s0 a 24 := (by rw [e_s1, zU_at (Or.inr (by decide))])
                      have f223 := zf hS0 ha (k := 24) rfl
                      have g224 : s1 a 38 = s0 a 38 := (by rw [e_s1, zU_at (Or.inr (by decide))])
                      have f225 := zf hS0 ha (k := 38) rfl
                      have g226 : s1 a 51 = s0 a 51 := (by rw [e_s1, zU_at (Or.inr (by decide))])
                      have f227 := zf hS0 ha (k := 51) rfl
                      have g228 : s1 a 52 = s0 a 52 := (by rw [e_s1, zU_at (Or.inr (by decide))])
                      have f229 := zf hS0 ha (k := 52) rfl
                      exact j_iret hx hq rfl (by decide) (by decide) dX12_film_167 ⟨((x2 - x1 + 1) * (x4 - x3 + 1)), rfl, rfl, hS_s1, (zFr_u zFr_rf e_s1 ha (by decide)), ⟨(by omega), by omega, by omega, by omega, by omega, by omega, by omega, by omega, by omega, by omega, by omega, by omega⟩⟩
                    · skip
                      refine j_iload hx 6 dX12_film_150 rfl ?_
                      refine j_goto hx 167 dX12_film_152 rfl ?_
                      have g230 : s1 a 3 = s0 a 3 := (by rw [e_s1, zU_at (Or.inr (by decide))])
                      have f231 := zf hS0 ha (k := 3) rfl
                      have g232 : s1 a 4 = s0 a 4 := (by rw [e_s1, zU_at (Or.inr (by decide))])
                      have f233 := zf hS0 ha (k := 4) rfl
                      have g234 : s1 a 5 = s0 a 5 := (by rw [e_s1, zU_at (Or.inr (by decide))])
                      have f235 := zf hS0 ha (k := 5) rfl
                      have g236 : s1 a 7 = s0 a 7 := (by rw [e_s1, zU_at (Or.inr (by decide))])
                      have f237 := zf hS0 ha (k := 7) rfl
                      have g238 : s1 a 21 = s0 a 21 := (by rw [e_s1, zU_at (Or.inr (by decide))])
                      have f239 := zf hS0 ha (k := 21) rfl
                      have g240 : s1 a 22 = s0 a 22 := (by rw [e_s1, zU_at (Or.inr (by decide))])
                      have f241 := zf hS0 ha (k := 22) rfl
                      have g242 : s1 a 23 = s0 a 23 := (by rw [e_s1, zU_at (Or.inr (by decide))])
                      have f243 := zf hS0 ha (k := 23) rfl
                      have g244 : s1 a 24 = s0 a 24 := (by rw [e_s1, zU_at (Or.inr (by decide))])
                      have f245 := zf hS0 ha (k := 24) rfl
                      have g246 : s1 a 38 = s0 a 38 := (by rw [e_s1, zU_at (Or.inr (by decide))])
                      have f247 := zf hS0 ha (k := 38) rfl
                      have g248 : s1 a 51 = s0 a 51 := (by rw [e_s1, zU_at (Or.inr (by decide))])
                      have f249 := zf hS0 ha (k := 51) rfl
                      have g250 : s1 a 52 = s0 a 52 := (by rw [e_s1, zU_at (Or.inr (by decide))])
                      have f251 := zf hS0 ha (k := 52) rfl
                      exact j_iret hx hq rfl (by decide) (by decide) dX12_film_167 ⟨v202, rfl, rfl, hS_s1, (zFr_u zFr_rf e_s1 ha (by decide)), ⟨(by omega), by omega, by omega, by omega, by omega, by omega, by omega, by omega, by omega, by omega, by omega, by omega⟩⟩
                  · skip
                    refine j_iload hx 5 dX12_film_139 rfl ?_
                    refine j_goto hx 167 dX12_film_141 rfl ?_
                    have g252 : s1 a 3 = s0 a 3 := (by rw [e_s1, zU_at (Or.inr (by decide))])
                    have f253 := zf hS0 ha (k := 3) rfl
                    have g254 : s1 a 4 = s0 a 4 := (by rw [e_s1, zU_at (Or.inr (by decide))])
                    have f255 := zf hS0 ha (k := 4) rfl
                    have g256 : s1 a 5 = s0 a 5 := (by rw [e_s1, zU_at (Or.inr (by decide))])
                    have f257 := zf hS0 ha (k := 5) rfl
                    have g258 : s1 a 7 = s0 a 7 := (by rw [e_s1, zU_at (Or.inr (by decide))])
                    have f259 := zf hS0 ha (k := 7) rfl
                    have g260 : s1 a 21 = s0 a 21 := (by rw [e_s1, zU_at (Or.inr (by decide))])
                    have f261 := zf hS0 ha (k := 21) rfl
                    have g262 : s1 a 22 = s0 a 22 := (by rw [e_s1, zU_at (Or.inr (by decide))])
                    have f263 := zf hS0 ha (k := 22) rfl
                    have g264 : s1 a 23 = s0 a 23 := (by rw [e_s1, zU_at (Or.inr (by decide))])
                    have f265 := zf hS0 ha (k := 23) rfl
                    have g266 : s1 a 24 = s0 a 24 := (by rw [e_s1, zU_at (Or.inr (by decide))])
                    have f267 := zf hS0 ha (k := 24) rfl
                    have g268 : s1 a 38 = s0 a 38 := (by rw [e_s1, zU_at (Or.inr (by decide))])
                    have f269 := zf hS0 ha (k := 38) rfl
                    have g270 : s1 a 51 = s0 a 51 := (by rw [e_s1, zU_at (Or.inr (by decide))])
                    have f271 := zf hS0 ha (k := 51) rfl
                    have g272 : s1 a 52 = s0 a 52 := (by rw [e_s1, zU_at (Or.inr (by decide))])
                    have f273 := zf hS0 ha (k := 52) rfl
                    exact j_iret hx hq rfl (by decide) (by decide) dX12_film_167 ⟨v201, rfl, rfl, hS_s1, (zFr_u zFr_rf e_s1 ha (by decide)), ⟨(by omega), by omega, by omega, by omega, by omega, by omega, by omega, by omega, by omega, by omega, by omega, by omega⟩⟩
                · skip
                  refine j_iload_n hx 2 dX12_film_78 rfl ?_
                  refine j_istore hx [(9, .int (zI x3)), (1, .int (zI x1)), (2, .int (zI x2)), (3, .int (zI x3)), (4, .int (zI x4)), (5, .int (zI x5)), (6, .int (zI v201)), (7, .int (zI v202)), (8, .int (zI v203))] dX12_film_79 (by decide) rfl ?_
                  have c81_11 : ∀ (m_c81_11 : Nat) (v274 : Int) (v275 : Int) (v276 : Int), 2147483648 - v276 < m_c81_11 → ((-2147483648) ≤ v274 ∧ v274 ≤ 2147483647) → ((-2147483648) ≤ v275 ∧ v275 ≤ 2147483647) → ((-2147483648) ≤ v276 ∧ v276 ≤ 2147483647) → JJ X E 10 G s1 0 0 [(1, .int (zI x1)), (2, .int (zI x2)), (3, .int (zI x3)), (4, .int (zI x4)), (5, .int (zI x5)), (6, .int (zI v274)), (7, .int (zI v275)), (8, .int (zI v203)), (9, .int (zI v276))] 81 [] := by
                    intro m_c81_11
                    induction m_c81_11 with
                    | zero => intro v274 v275 v276 hm_c81_11 fA12 fA13 fA14; exfalso; omega
                    | succ m_c81_11 ih_c81_11 => 
                      intro v274 v275 v276 hm_c81_11 fA12 fA13 fA14
                      refine j_iload hx 8 dX12_film_81 rfl ?_
                      refine j_iload hx 3 dX12_film_83 rfl ?_
                      refine j_icmp_gt hx 128 dX12_film_85 rfl (by omega) (by omega) (fun h277 => ?_) (fun h277 => ?_)
                      · skip
                        refine j_iinc hx 7 [(8, .int (zI (v203 + 1))), (1, .int (zI x1)), (2, .int (zI x2)), (3, .int (zI x3)), (4, .int (zI x4)), (5, .int (zI x5)), (6, .int (zI v274)), (7, .int (zI v275)), (9, .int (zI v276))] dX12_film_128 rfl (by omega) (by decide) rfl ?_
                        refine j_goto hx 72 dX12_film_131 rfl ?_
                        exact j_sub [1, 2, 3, 4, 5, 6, 7, 0] [(1, .int (zI x1)), (2, .int (zI x2)), (3, .int (zI x3)), (4, .int (zI x4)), (5, .int (zI x5)), (6, .int (zI v274)), (7, .int (zI v275)), (8, .int (zI (v203 + 1)))] rfl (ih_c72_7 v274 v275 (v203 + 1) (by omega) (by omega) (by omega) (by omega))
                      · skip
                        refine j_iload hx 5 dX12_film_88 rfl ?_
                        refine j_iload hx 7 dX12_film_90 rfl ?_
                        refine j_iload hx 8 dX12_film_92 rfl ?_
                        refine j_icmp_ge hx 101 dX12_film_94 rfl (by omega) (by omega) (fun h278 => ?_) (fun h278 => ?_)
                        · skip
                          refine j_iconst hx dX12_film_101 ?_
                          refine j_iadd hx (r := v274) dX12_film_102 (by omega) ?_
                          refine j_istore hx [(6, .int (zI v274)), (1, .int (zI x1)), (2, .int (zI x2)), (3, .int (zI x3)), (4, .int (zI x4)), (5, .int (zI x5)), (7, .int (zI v275)), (8, .int (zI v203)), (9, .int (zI v276))] dX12_film_103 (by decide) rfl ?_
                          refine j_iload hx 6 dX12_film_105 rfl ?_
                          refine j_iload hx 7 dX12_film_107 rfl ?_
                          refine j_iload hx 8 dX12_film_109 rfl ?_
                          refine j_icmp_ne hx 118 dX12_film_111 rfl (by omega) (by omega) (fun h279 => ?_) (fun h279 => ?_)
                          · skip
                            refine j_iconst hx dX12_film_118 ?_
                            refine j_iadd hx (r := v275) dX12_film_119 (by omega) ?_
                            refine j_istore hx [(7, .int (zI v275)), (6, .int (zI v274)), (1, .int (zI x1)), (2, .int (zI x2)), (3, .int (zI x3)), (4, .int (zI x4)), (5, .int (zI x5)), (8, .int (zI v203)), (9, .int (zI v276))] dX12_film_120 (by decide) rfl ?_
                            refine j_iinc hx 8 [(9, .int (zI (v276 + 1))), (7, .int (zI v275)), (6, .int (zI v274)), (1, .int (zI x1)), (2, .int (zI x2)), (3, .int (zI x3)), (4, .int (zI x4)), (5, .int (zI x5)), (8, .int (zI v203))] dX12_film_122 rfl (by omega) (by decide) rfl ?_
                            refine j_goto hx 81 dX12_film_125 rfl ?_
                            exact j_sub [3, 4, 5, 6, 7, 2, 1, 8, 0] [(1, .int (zI x1)), (2, .int (zI x2)), (3, .int (zI x3)), (4, .int (zI x4)), (5, .int (zI x5)), (6, .int (zI v274)), (7, .int (zI v275)), (8, .int (zI v203)), (9, .int (zI (v276 + 1)))] rfl (ih_c81_11 v274 v275 (v276 + 1) (by omega) (by omega) (by omega) (by omega))
                          · skip
                            refine j_iconst hx dX12_film_114 ?_
                            refine j_goto hx 119 dX12_film_115 rfl ?_
                            refine j_iadd hx (r := v275 + 1) dX12_film_119 rfl ?_
                            refine j_norm (fun v280 f281 f282 f283 => ?_)
                            refine j_istore hx [(7, .int (zI v280)), (6, .int (zI v274)), (1, .int (zI x1)), (2, .int (zI x2)), (3, .int (zI x3)), (4, .int (zI x4)), (5, .int (zI x5)), (8, .int (zI v203)), (9, .int (zI v276))] dX12_film_120 (by decide) rfl ?_
                            refine j_iinc hx 8 [(9, .int (zI (v276 + 1))), (7, .int (zI v280)), (6, .int (zI v274)), (1, .int (zI x1)), (2, .int (zI x2)), (3, .int (zI x3)), (4, .int (zI x4)), (5, .int (zI x5)), (8, .int (zI v203))] dX12_film_122 rfl (by omega) (by decide) rfl ?_
                            refine j_goto hx 81 dX12_film_125 rfl ?_
                            exact j_sub [3, 4, 5, 6, 7, 2, 1, 8, 0] [(1, .int (zI x1)), (2, .int (zI x2)), (3, .int (zI x3)), (4, .int (zI x4)), (5, .int (zI x5)), (6, .int (zI v274)), (7, .int (zI v280)), (8, .int (zI v203)), (9, .int (zI (v276 + 1)))] rfl (ih_c81_11 v274 v280 (v276 + 1) (by omega) (by omega) (by omega) (by omega))
                        · skip
                          refine j_iconst hx dX12_film_97 ?_
                          refine j_goto hx 102 dX12_film_98 rfl ?_
                          refine j_iadd hx (r := v274 + 1) dX12_film_102 rfl ?_
                          refine j_norm (fun v284 f285 f286 f287 => ?_)
                          refine j_istore hx [(6, .int (zI v284)), (1, .int (zI x1)), (2, .int (zI x2)), (3, .int (zI x3)), (4, .int (zI x4)), (5, .int (zI x5)), (7, .int (zI v275)), (8, .int (zI v203)), (9, .int (zI v276))] dX12_film_103 (by decide) rfl ?_
                          refine j_iload hx 6 dX12_film_105 rfl ?_
                          refine j_iload hx 7 dX12_film_107 rfl ?_
                          refine j_iload hx 8 dX12_film_109 rfl ?_
                          refine j_icmp_ne hx 118 dX12_film_111 rfl (by omega) (by omega) (fun h288 => ?_) (fun h288 => ?_)
                          · skip
                            refine j_iconst hx dX12_film_118 ?_
                            refine j_iadd hx (r := v275) dX12_film_119 (by omega) ?_
                            refine j_istore hx [(7, .int (zI v275)), (6, .int (zI v284)), (1, .int (zI x1)), (2, .int (zI x2)), (3, .int (zI x3)), (4, .int (zI x4)), (5, .int (zI x5)), (8, .int (zI v203)), (9, .int (zI v276))] dX12_film_120 (by decide) rfl ?_
                            refine j_iinc hx 8 [(9, .int (zI (v276 + 1))), (7, .int (zI v275)), (6, .int (zI v284)), (1, .int (zI x1)), (2, .int (zI x2)), (3, .int (zI x3)), (4, .int (zI x4)), (5, .int (zI x5)), (8, .int (zI v203))] dX12_film_122 rfl (by omega) (by decide) rfl ?_
                            refine j_goto hx 81 dX12_film_125 rfl ?_
                            exact j_sub [3, 4, 5, 6, 7, 2, 1, 8, 0] [(1, .int (zI x1)), (2, .int (zI x2)), (3, .int (zI x3)), (4, .int (zI x4)), (5, .int (zI x5)), (6, .int (zI v284)), (7, .int (zI v275)), (8, .int (zI v203)), (9, .int (zI (v276 + 1)))] rfl (ih_c81_11 v284 v275 (v276 + 1) (by omega) (by omega) (by omega) (by omega))
                          · skip
                            refine j_iconst hx dX12_film_114 ?_
                            refine j_goto hx 119 dX12_film_115 rfl ?_
                            refine j_iadd hx (r := v275 + 1) dX12_film_119 rfl ?_
                            refine j_norm (fun v289 f290 f291 f292 => ?_)
                            refine j_istore hx [(7, .int (zI v289)), (6, .int (zI v284)), (1, .int (zI x1)), (2, .int (zI x2)), (3, .int (zI x3)), (4, .int (zI x4)), (5, .int (zI x5)), (8, .int (zI v203)), (9, .int (zI v276))] dX12_film_120 (by decide) rfl ?_
                            refine j_iinc hx 8 [(9, .int (zI (v276 + 1))), (7, .int (zI v289)), (6, .int (zI v284)), (1, .int (zI x1)), (2, .int (zI x2)), (3, .int (zI x3)), (4, .int (zI x4)), (5, .int (zI x5)), (8, .int (zI v203))] dX12_film_122 rfl (by omega) (by decide) rfl ?_
                            refine j_goto hx 81 dX12_film_125 rfl ?_
                            exact j_sub [3, 4, 5, 6, 7, 2, 1, 8, 0] [(1, .int (zI x1)), (2, .int (zI x2)), (3, .int (zI x3)), (4, .int (zI x4)), (5, .int (zI x5)), (6, .int (zI v284)), (7, .int (zI v289)), (8, .int (zI v203)), (9, .int (zI (v276 + 1)))] rfl (ih_c81_11 v284 v289 (v276 + 1) (by omega) (by omega) (by omega) (by omega))
                  exact j_sub [1, 2, 3, 4, 5, 6, 7, 8, 0] [(1, .int (zI x1)), (2, .int (zI x2)), (3, .int (zI x3)), (4, .int (zI x4)), (5, .int (zI x5)), (6, .int (zI v201)), (7, .int (zI v202)), (8, .int (zI v203)), (9, .int (zI x3))] rfl (c81_11 (2147483648 * 4) v201 v202 x3 (by omega) (by omega) (by omega) (by omega))
            exact j_sub [4, 5, 6, 7, 8, 2, 1, 0] [(1, .int (zI x1)), (2, .int (zI x2)), (3, .int (zI x3)), (4, .int (zI x4)), (5, .int (zI x5)), (6, .int (zI 0)), (7, .int (zI 0)), (8, .int (zI x1))] rfl (c72_7 (2147483648 * 4) 0 0 x1 (by omega) (by omega) (by omega) (by omega))

set_option maxHeartbeats 1200000 in
set_option maxRecDepth 20000 in
theorem c_X12_laws {E : zE} {l : Launch} (hst : l.stackTraces = false) (a : Nat) (x1 : Int) (x2 : Int) : Con E l yX12_laws cX12_laws 3 (some .int) { frames := 7, cells := 0, slots := 0, locals := 162 } (fun G s vs => vs = [.ref a, .int (zI x1), .int (zI x2)] ∧ zGK G ∧ zSK G s ∧ (gT G a = 13) ∧ ((-2147483648) ≤ x1 ∧ x1 ≤ 2147483647) ∧ ((-2147483648) ≤ x2 ∧ x2 ≤ 2147483647) ∧ (zRva (s (gP G a 34)) (s (gP G a 35)) (s (gP G a 37))) ∧ (zc (s (gP G a 27)) ≤ 60) ∧ (s (gP G a 27) 488 ≤ 520000)) (fun G s _ => pI (fun r G2 s2 => G2 = G ∧ zSK G s2 ∧ zFr [13, 71, 84, 87, 95, 98, 99, 100, 101, 102, 103] G s s2 ∧ ((-2147483648) ≤ r ∧ r ≤ 2147483647) ∧ zc (s2 (gP G a 27)) = zc (s (gP G a 27)) ∧ s2 (gP G a 27) 488 = s (gP G a 27) 488 ∧ s2 a 3 = s a 3 ∧ s2 a 4 = s a 4 ∧ s2 a 5 = s a 5 ∧ s2 a 7 = s a 7 ∧ s2 a 21 = s a 21 ∧ s2 a 22 = s a 22 ∧ s2 a 23 = s a 23 ∧ s2 a 24 = s a 24 ∧ s2 a 38 = s a 38)) := by
  refine Con.mk hst (by decide) (fun G s vs h => by rw [h.1]; exact Nat.le_of_ble_eq_true rfl) ?_
  rintro X G s0 vs ⟨rfl, hG, hS0, ha, hx1, hx2, e0, e1, e2⟩ rfl hx hq
  show JJ X E 3 G s0 0 0 [(0, .ref a), (1, .int (zI x1)), (2, .int (zI x2))] 0 []
  refine j_aload_n hx 0 dX12_laws_0 rfl ?_
  refine j_iconst hx dX12_laws_1 ?_
  refine p13_0 hx hG ha kf_RX12_3 dX12_laws_2 ?_
  obtain ⟨s1, e_s1⟩ : ∃ z, z = zU s0 a 0 0 := ⟨_, rfl⟩
  rw [← e_s1]
  have hS_s1 : zSK G s1 := by rw [e_s1]; exact zSK_F hS0 ha rfl rfl rfl (by omega)
  refine j_aload_n hx 0 dX12_laws_5 rfl ?_
  refine j_iload_n hx 1 dX12_laws_6 rfl ?_
  refine j_iconst hx dX12_laws_7 ?_
  refine j_bipush hx dX12_laws_8 rfl ?_
  refine j_callS hx (c_X12_within hst x1 0 8) lk_RX12_314 [.int (zI x1), .int (zI 0), .int (zI 8)] ⟨rfl, hG, hS_s1, (by omega), (by omega), (by omega)⟩ rfl rfl ⟨by decide, by decide⟩ ⟨by decide, by decide⟩ (k2 := 0) (n2 := 0) rfl rfl (Nat.le_of_ble_eq_true rfl) dX12_laws_10 (kIP (fun v1 q2 => ?_))
  refine j_if_eq hx 29 dX12_laws_13 rfl (by omega) (fun h3 => ?_) (fun h3 => ?_)
  · skip
    refine j_iconst hx dX12_laws_29 ?_
    refine j_iconst hx dX12_laws_30 ?_
    refine j_iconst hx dX12_laws_31 ?_
    have g4 : s1 a 0 = 0 := (by rw [e_s1, zU_eq])
    have g5 : s1 a 3 = s0 a 3 := (by rw [e_s1, zU_at (Or.inr (by decide))])
    have f6 := zf hS0 ha (k := 3) rfl
    have g7 : s1 a 4 = s0 a 4 := (by rw [e_s1, zU_at (Or.inr (by decide))])
    have f8 := zf hS0 ha (k := 4) rfl
    have g9 : s1 a 5 = s0 a 5 := (by rw [e_s1, zU_at (Or.inr (by decide))])
    have f10 := zf hS0 ha (k := 5) rfl
    have g11 : s1 a 7 = s0 a 7 := (by rw [e_s1, zU_at (Or.inr (by decide))])
    have f12 := zf hS0 ha (k := 7) rfl
    have g13 : s1 a 21 = s0 a 21 := (by rw [e_s1, zU_at (Or.inr (by decide))])
    have f14 := zf hS0 ha (k := 21) rfl
    have g15 : s1 a 22 = s0 a 22 := (by rw [e_s1, zU_at (Or.inr (by decide))])
    have f16 := zf hS0 ha (k := 22) rfl
    have g17 : s1 a 23 = s0 a 23 := (by rw [e_s1, zU_at (Or.inr (by decide))])
    have f18 := zf hS0 ha (k := 23) rfl
    have g19 : s1 a 24 = s0 a 24 := (by rw [e_s1, zU_at (Or.inr (by decide))])
    have f20 := zf hS0 ha (k := 24) rfl
    have g21 : s1 a 38 = s0 a 38 := (by rw [e_s1, zU_at (Or.inr (by decide))])
    have f22 := zf hS0 ha (k := 38) rfl
    have g23 : s1 a 51 = s0 a 51 := (by rw [e_s1, zU_at (Or.inr (by decide))])
    have f24 := zf hS0 ha (k := 51) rfl
    have g25 : s1 a 52 = s0 a 52 := (by rw [e_s1, zU_at (Or.inr (by decide))])
    have f26 := zf hS0 ha (k := 52) rfl
    refine j_callV hx hG (c_X12_may_f hst a 0 1 1) lk_RX12_240 ha (by decide) rfl rfl rfl rfl [.int (zI 0), .int (zI 1), .int (zI 1)] ⟨rfl, hG, hS_s1, ha, (by omega), (by omega), (by omega), (((by rw [e_s1, zU_eq]) : s1 a 0 = 0).trans (by omega))⟩ rfl rfl ⟨by decide, by decide⟩ ⟨by decide, by decide⟩ (k2 := 0) (n2 := 0) rfl rfl (Nat.le_of_ble_eq_true rfl) dX12_laws_32 (kIM (fun v27 s2 hS_s2 hF_s2 q28 => ?_))
    refine j_if_ne hx 40 dX12_laws_35 rfl (by omega) (fun h29 => absurd h29 (by omega)) (fun h29 => ?_)
    refine j_iconst hx dX12_laws_38 ?_
    have g30 : zc (s2 (gP G a 27)) = zc (s0 (gP G a 27)) := by rw [hF_s2 (gP G a 27) (by rw [(zr (k := 27) (t2 := 84) hG ha rfl)]; decide), e_s1, zU_ne (zne ha (zr (k := 27) (t2 := 84) hG ha rfl) (by decide))]
    have g31 : s2 (gP G a 27) 488 = s0 (gP G a 27) 488 := (by rw [(zFr_g hF_s2 (zr (k := 27) (t2 := 84) hG ha rfl) (by decide)), e_s1, zU_at (Or.inl (zne ha (zr (k := 27) (t2 := 84) hG ha rfl) (by decide)))])
    have f32 := zf hS_s2 ha (k := 3) rfl
    have f33 := zf hS_s2 ha (k := 4) rfl
    have f34 := zf hS_s2 ha (k := 5) rfl
    have f35 := zf hS_s2 ha (k := 7) rfl
    have f36 := zf hS_s2 ha (k := 21) rfl
    have f37 := zf hS_s2 ha (k := 22) rfl
    have f38 := zf hS_s2 ha (k := 23) rfl
    have f39 := zf hS_s2 ha (k := 24) rfl
    have f40 := zf hS_s2 ha (k := 38) rfl
    exact j_iret hx hq rfl (by decide) (by decide) dX12_laws_39 ⟨0, rfl, rfl, hS_s2, (zFr_t (zFr_u zFr_rf e_s1 ha (by decide)) hF_s2 (by decide)), ⟨(by omega), by omega, by omega, by omega, by omega, by omega, by omega, by omega, by omega, by omega, by omega, by omega⟩⟩
  · skip
    refine j_iload_n hx 2 dX12_laws_16 rfl ?_
    refine j_iconst hx dX12_laws_17 ?_
    refine j_iconst hx dX12_laws_18 ?_
    refine j_callS hx (c_X12_within hst x2 0 1) lk_RX12_314 [.int (zI x2), .int (zI 0), .int (zI 1)] ⟨rfl, hG, hS_s1, (by omega), (by omega), (by omega)⟩ rfl rfl ⟨by decide, by decide⟩ ⟨by decide, by decide⟩ (k2 := 0) (n2 := 0) rfl rfl (Nat.le_of_ble_eq_true rfl) dX12_laws_19 (kIP (fun v41 q42 => ?_))
    refine j_if_eq hx 29 dX12_laws_22 rfl (by omega) (fun h43 => ?_) (fun h43 => ?_)
    · skip
      refine j_iconst hx dX12_laws_29 ?_
      refine j_iconst hx dX12_laws_30 ?_
      refine j_iconst hx dX12_laws_31 ?_
      have g44 : s1 a 0 = 0 := (by rw [e_s1, zU_eq])
      have g45 : s1 a 3 = s0 a 3 := (by rw [e_s1, zU_at (Or.inr (by decide))])
      have f46 := zf hS0 ha (k := 3) rfl
      have g47 : s1 a 4 = s0 a 4 := (by rw [e_s1, zU_at (Or.inr (by decide))])
      have f48 := zf hS0 ha (k := 4) rfl
      have g49 : s1 a 5 = s0 a 5 := (by rw [e_s1, zU_at (Or.inr (by decide))])
      have f50 := zf hS0 ha (k := 5) rfl
      have g51 : s1 a 7 = s0 a 7 := (by rw [e_s1, zU_at (Or.inr (by decide))])
      have f52 := zf hS0 ha (k := 7) rfl
      have g53 : s1 a 21 = s0 a 21 := (by rw [e_s1, zU_at (Or.inr (by decide))])
      have f54 := zf hS0 ha (k := 21) rfl
      have g55 : s1 a 22 = s0 a 22 := (by rw [e_s1, zU_at (Or.inr (by decide))])
      have f56 := zf hS0 ha (k := 22) rfl
      have g57 : s1 a 23 = s0 a 23 := (by rw [e_s1, zU_at (Or.inr (by decide))])
      have f58 := zf hS0 ha (k := 23) rfl
      have g59 : s1 a 24 = s0 a 24 := (by rw [e_s1, zU_at (Or.inr (by decide))])
      have f60 := zf hS0 ha (k := 24) rfl
      have g61 : s1 a 38 = s0 a 38 := (by rw [e_s1, zU_at (Or.inr (by decide))])
      have f62 := zf hS0 ha (k := 38) rfl
      have g63 : s1 a 51 = s0 a 51 := (by rw [e_s1, zU_at (Or.inr (by decide))])
      have f64 := zf hS0 ha (k := 51) rfl
      have g65 : s1 a 52 = s0 a 52 := (by rw [e_s1, zU_at (Or.inr (by decide))])
      have f66 := zf hS0 ha (k := 52) rfl
      refine j_callV hx hG (c_X12_may_f hst a 0 1 1) lk_RX12_240 ha (by decide) rfl rfl rfl rfl [.int (zI 0), .int (zI 1), .int (zI 1)] ⟨rfl, hG, hS_s1, ha, (by omega), (by omega), (by omega), (((by rw [e_s1, zU_eq]) : s1 a 0 = 0).trans (by omega))⟩ rfl rfl ⟨by decide, by decide⟩ ⟨by decide, by decide⟩ (k2 := 0) (n2 := 0) rfl rfl (Nat.le_of_ble_eq_true rfl) dX12_laws_32 (kIM (fun v67 s3 hS_s3 hF_s3 q68 => ?_))
      refine j_if_ne hx 40 dX12_laws_35 rfl (by omega) (fun h69 => absurd h69 (by omega)) (fun h69 => ?_)
      refine j_iconst hx dX12_laws_38 ?_
      have g70 : zc (s3 (gP G a 27)) = zc (s0 (gP G a 27)) := by rw [hF_s3 (gP G a 27) (by rw [(zr (k := 27) (t2 := 84) hG ha rfl)]; decide), e_s1, zU_ne (zne ha (zr (k := 27) (t2 := 84) hG ha rfl) (by decide))]
      have g71 : s3 (gP G a 27) 488 = s0 (gP G a 27) 488 := (by rw [(zFr_g hF_s3 (zr (k := 27) (t2 := 84) hG ha rfl) (by decide)), e_s1, zU_at (Or.inl (zne ha (zr (k := 27) (t2 := 84) hG ha rfl) (by decide)))])
      have f72 := zf hS_s3 ha (k := 3) rfl
      have f73 := zf hS_s3 ha (k := 4) rfl
      have f74 := zf hS_s3 ha (k := 5) rfl
      have f75 := zf hS_s3 ha (k := 7) rfl
      have f76 := zf hS_s3 ha (k := 21) rfl
      have f77 := zf hS_s3 ha (k := 22) rfl
      have f78 := zf hS_s3 ha (k := 23) rfl
      have f79 := zf hS_s3 ha (k := 24) rfl
      have f80 := zf hS_s3 ha (k := 38) rfl
      exact j_iret hx hq rfl (by decide) (by decide) dX12_laws_39 ⟨0, rfl, rfl, hS_s3, (zFr_t (zFr_u zFr_rf e_s1 ha (by decide)) hF_s3 (by decide)), ⟨(by omega), by omega, by omega, by omega, by omega, by omega, by omega, by omega, by omega, by omega, by omega, by omega⟩⟩
    · skip
      refine j_iconst hx dX12_laws_25 ?_
      refine j_goto hx 30 dX12_laws_26 rfl ?_
      refine j_iconst hx dX12_laws_30 ?_
      refine j_iconst hx dX12_laws_31 ?_
      have g81 : s1 a 0 = 0 := (by rw [e_s1, zU_eq])
      refine j_callV hx hG (c_X12_may_t hst a 1 1 1) lk_RX12_240 ha (by decide) rfl rfl rfl rfl [.int (zI 1), .int (zI 1), .int (zI 1)] ⟨rfl, hG, hS_s1, ha, (by omega), (by omega), (by omega), (((by rw [e_s1, zU_eq]) : s1 a 0 = 0).trans (by omega))⟩ rfl rfl ⟨by decide, by decide⟩ ⟨by decide, by decide⟩ (k2 := 0) (n2 := 0) rfl rfl (Nat.le_of_ble_eq_true rfl) dX12_laws_32 (kIP (fun v82 q83 => ?_))
      refine j_if_ne hx 40 dX12_laws_35 rfl (by omega) (fun h84 => ?_) (fun h84 => absurd h84 (by omega))
      refine j_aload_n hx 0 dX12_laws_40 rfl ?_
      have g85 : zc (s1 (gP G a 27)) = zc (s0 (gP G a 27)) := by rw [e_s1, zU_ne (zne ha (zr (k := 27) (t2 := 84) hG ha rfl) (by decide))]
      have g86 : s1 (gP G a 27) 488 = s0 (gP G a 27) 488 := (by rw [e_s1, zU_at (Or.inl (zne ha (zr (k := 27) (t2 := 84) hG ha rfl) (by decide)))])
      refine j_callV hx hG (c_X12_keeps hst a) lk_RX12_444 ha (by decide) rfl rfl rfl rfl [] ⟨rfl, hG, hS_s1, ha⟩ rfl rfl ⟨by decide, by decide⟩ ⟨by decide, by decide⟩ (k2 := 0) (n2 := 0) rfl rfl (Nat.le_of_ble_eq_true rfl) dX12_laws_41 (kVM (fun s4 hS_s4 hF_s4 q88 => ?_))
      refine j_aload_n hx 0 dX12_laws_44 rfl ?_
      refine g13_27 hx hG ha kf_RX12_56 dX12_laws_45 ?_
      refine j_sipush hx dX12_laws_48 rfl ?_
      refine j_iload_n hx 1 dX12_laws_51 rfl ?_
      refine j_iconst hx dX12_laws_52 ?_
      refine j_idiv hx dX12_laws_53 (by omega) ⟨by decide, by decide⟩ (by decide) (fun v89 f90 f91 f92 => ?_)
      refine j_iast hx hG (zr (k := 27) (t2 := 84) hG ha rfl) (by decide) rfl (zlen hG (zr (k := 27) (t2 := 84) hG ha rfl) (n := 515) rfl rfl) (by omega) (by omega) (j := 491) rfl dX12_laws_54 ?_
      obtain ⟨s5, e_s5⟩ : ∃ z, z = zU s4 (gP G a 27) 491 v89 := ⟨_, rfl⟩
      rw [← e_s5]
      have hS_s5 : zSK G s5 := by rw [e_s5]; exact zSK_a hS_s4 (zr (k := 27) (t2 := 84) hG ha rfl) rfl rfl (congrArg some (axS_7 491 (by omega))) (by omega)
      have g96 : zc (s4 (gP G a 27)) = zc (s0 (gP G a 27)) := by rw [hF_s4 (gP G a 27) (by rw [(zr (k := 27) (t2 := 84) hG ha rfl)]; decide), e_s1, zU_ne (zne ha (zr (k := 27) (t2 := 84) hG ha rfl) (by decide))]
      have z95 : zc (s5 (gP G a 27)) = zc (s4 (gP G a 27)) := by rw [e_s5]; exact zc_o (by omega)
      refine j_aload_n hx 0 dX12_laws_55 rfl ?_
      refine g13_27 hx hG ha kf_RX12_56 dX12_laws_56 ?_
      refine j_sipush hx dX12_laws_59 rfl ?_
      refine j_iload_n hx 1 dX12_laws_62 rfl ?_
      refine j_iconst hx dX12_laws_63 ?_
      refine j_irem hx dX12_laws_64 (by omega) ⟨by decide, by decide⟩ (by decide) (fun v97 f98 f99 f100 f101 => ?_)
      refine j_iast hx hG (zr (k := 27) (t2 := 84) hG ha rfl) (by decide) rfl (zlen hG (zr (k := 27) (t2 := 84) hG ha rfl) (n := 515) rfl rfl) (by omega) (by omega) (j := 492) rfl dX12_laws_65 ?_
      obtain ⟨s6, e_s6⟩ : ∃ z, z = zU s5 (gP G a 27) 492 v97 := ⟨_, rfl⟩
      rw [← e_s6]
      have hS_s6 : zSK G s6 := by rw [e_s6]; exact zSK_a hS_s5 (zr (k := 27) (t2 := 84) hG ha rfl) rfl rfl (congrArg some (axS_7 492 (by omega))) (by omega)
      have z103 : zc (s6 (gP G a 27)) = zc (s5 (gP G a 27)) := by rw [e_s6]; exact zc_o (by omega)
      refine j_aload_n hx 0 dX12_laws_66 rfl ?_
      have g104 : s6 (gP G a 27) 488 = s0 (gP G a 27) 488 := (by rw [e_s6, zU_at (Or.inr (by decide)), e_s5, zU_at (Or.inr (by decide)), (zFr_g hF_s4 (zr (k := 27) (t2 := 84) hG ha rfl) (by decide)), e_s1, zU_at (Or.inl (zne ha (zr (k := 27) (t2 := 84) hG ha rfl) (by decide)))])
      have g105 : s6 a 0 = 0 := (by rw [e_s6, zU_at (Or.inl (zne (zr (k := 27) (t2 := 84) hG ha rfl) ha (by decide))), e_s5, zU_at (Or.inl (zne (zr (k := 27) (t2 := 84) hG ha rfl) ha (by decide))), (zFr_g hF_s4 ha (by decide)), e_s1, zU_eq])
      have g106 : s6 a 3 = s0 a 3 := (by rw [e_s6, zU_at (Or.inl (zne (zr (k := 27) (t2 := 84) hG ha rfl) ha (by decide))), e_s5, zU_at (Or.inl (zne (zr (k := 27) (t2 := 84) hG ha rfl) ha (by decide))), (zFr_g hF_s4 ha (by decide)), e_s1, zU_at (Or.inr (by decide))])
      have f107 := zf hS0 ha (k := 3) rfl
      have g108 : s6 a 4 = s0 a 4 := (by rw [e_s6, zU_at (Or.inl (zne (zr (k := 27) (t2 := 84) hG ha rfl) ha (by decide))), e_s5, zU_at (Or.inl (zne (zr (k := 27) (t2 := 84) hG ha rfl) ha (by decide))), (zFr_g hF_s4 ha (by decide)), e_s1, zU_at (Or.inr (by decide))])
      have f109 := zf hS0 ha (k := 4) rfl
      have g110 : s6 a 5 = s0 a 5 := (by rw [e_s6, zU_at (Or.inl (zne (zr (k := 27) (t2 := 84) hG ha rfl) ha (by decide))), e_s5, zU_at (Or.inl (zne (zr (k := 27) (t2 := 84) hG ha rfl) ha (by decide))), (zFr_g hF_s4 ha (by decide)), e_s1, zU_at (Or.inr (by decide))])
      have f111 := zf hS0 ha (k := 5) rfl
      have g112 : s6 a 7 = s0 a 7 := (by rw [e_s6, zU_at (Or.inl (zne (zr (k := 27) (t2 := 84) hG ha rfl) ha (by decide))), e_s5, zU_at (Or.inl (zne (zr (k := 27) (t2 := 84) hG ha rfl) ha (by decide))), (zFr_g hF_s4 ha (by decide)), e_s1, zU_at (Or.inr (by decide))])
      have f113 := zf hS0 ha (k := 7) rfl
      have g114 : s6 a 21 = s0 a 21 := (by rw [e_s6, zU_at (Or.inl (zne (zr (k := 27) (t2 := 84) hG ha rfl) ha (by decide))), e_s5, zU_at (Or.inl (zne (zr (k := 27) (t2 := 84) hG ha rfl) ha (by decide))), (zFr_g hF_s4 ha (by decide)), e_s1, zU_at (Or.inr (by decide))])
      have f115 := zf hS0 ha (k := 21) rfl
      have g116 : s6 a 22 = s0 a 22 := (by rw [e_s6, zU_at (Or.inl (zne (zr (k := 27) (t2 := 84) hG ha rfl) ha (by decide))), e_s5, zU_at (Or.inl (zne (zr (k := 27) (t2 := 84) hG ha rfl) ha (by decide))), (zFr_g hF_s4 ha (by decide)), e_s1, zU_at (Or.inr (by decide))])
      have f117 := zf hS0 ha (k := 22) rfl
      have g118 : s6 a 23 = s0 a 23 := (by rw [e_s6, zU_at (Or.inl (zne (zr (k := 27) (t2 := 84) hG ha rfl) ha (by decide))), e_s5, zU_at (Or.inl (zne (zr (k := 27) (t2 := 84) hG ha rfl) ha (by decide))), (zFr_g hF_s4 ha (by decide)), e_s1, zU_at (Or.inr (by decide))])
      have f119 := zf hS0 ha (k := 23) rfl
      have g120 : s6 a 24 = s0 a 24 := (by rw [e_s6, zU_at (Or.inl (zne (zr (k := 27) (t2 := 84) hG ha rfl) ha (by decide))), e_s5, zU_at (Or.inl (zne (zr (k := 27) (t2 := 84) hG ha rfl) ha (by decide))), (zFr_g hF_s4 ha (by decide)), e_s1, zU_at (Or.inr (by decide))])
      have f121 := zf hS0 ha (k := 24) rfl
      have g122 : s6 a 38 = s0 a 38 := (by rw [e_s6, zU_at (Or.inl (zne (zr (k := 27) (t2 := 84) hG ha rfl) ha (by decide))), e_s5, zU_at (Or.inl (zne (zr (k := 27) (t2 := 84) hG ha rfl) ha (by decide))), (zFr_g hF_s4 ha (by decide)), e_s1, zU_at (Or.inr (by decide))])
      have f123 := zf hS0 ha (k := 38) rfl
      refine j_callV hx hG (c_X12_findEnds hst a) lk_RX12_447 ha (by decide) rfl rfl rfl rfl [] ⟨rfl, hG, hS_s6, ha, (by omega), ((by have q1 : s6 (gP G a 34) = s0 (gP G a 34) := (by rw [e_s6, zU_ne (zne (zr (k := 27) (t2 := 84) hG ha rfl) (zr (k := 34) (t2 := 91) hG ha rfl) (by decide)), e_s5, zU_ne (zne (zr (k := 27) (t2 := 84) hG ha rfl) (zr (k := 34) (t2 := 91) hG ha rfl) (by decide)), hF_s4 (gP G a 34) (by rw [(zr (k := 34) (t2 := 91) hG ha rfl)]; decide), e_s1, zU_ne (zne ha (zr (k := 34) (t2 := 91) hG ha rfl) (by decide))]); have q2 : s6 (gP G a 35) = s0 (gP G a 35) := (by rw [e_s6, zU_ne (zne (zr (k := 27) (t2 := 84) hG ha rfl) (zr (k := 35) (t2 := 92) hG ha rfl) (by decide)), e_s5, zU_ne (zne (zr (k := 27) (t2 := 84) hG ha rfl) (zr (k := 35) (t2 := 92) hG ha rfl) (by decide)), hF_s4 (gP G a 35) (by rw [(zr (k := 35) (t2 := 92) hG ha rfl)]; decide), e_s1, zU_ne (zne ha (zr (k := 35) (t2 := 92) hG ha rfl) (by decide))]); have q3 : s6 (gP G a 37) = s0 (gP G a 37) := (by rw [e_s6, zU_ne (zne (zr (k := 27) (t2 := 84) hG ha rfl) (zr (k := 37) (t2 := 94) hG ha rfl) (by decide)), e_s5, zU_ne (zne (zr (k := 27) (t2 := 84) hG ha rfl) (zr (k := 37) (t2 := 94) hG ha rfl) (by decide)), hF_s4 (gP G a 37) (by rw [(zr (k := 37) (t2 := 94) hG ha rfl)]; decide), e_s1, zU_ne (zne ha (zr (k := 37) (t2 := 94) hG ha rfl) (by decide))]); rw [q1, q2, q3]; exact e0)), (by omega)⟩ rfl rfl ⟨by decide, by decide⟩ ⟨by decide, by decide⟩ (k2 := 0) (n2 := 0) rfl rfl (Nat.le_of_ble_eq_true rfl) dX12_laws_67 (kVM (fun s7 hS_s7 hF_s7 q125 => ?_))
      refine j_aload_n hx 0 dX12_laws_70 rfl ?_
      have g126 : zc (s7 (gP G a 46)) = zc (s4 (gP G a 46)) := by rw [hF_s7 (gP G a 46) (by rw [(zr (k := 46) (t2 := 99) hG ha rfl)]; decide), e_s6, zU_ne (zne (zr (k := 27) (t2 := 84) hG ha rfl) (zr (k := 46) (t2 := 99) hG ha rfl) (by decide)), e_s5, zU_ne (zne (zr (k := 27) (t2 := 84) hG ha rfl) (zr (k := 46) (t2 := 99) hG ha rfl) (by decide))]
      have g127 : s7 (gP G a 46) 488 = s4 (gP G a 46) 488 := (by rw [(zFr_g hF_s7 (zr (k := 46) (t2 := 99) hG ha rfl) (by decide)), e_s6, zU_at (Or.inl (zne (zr (k := 27) (t2 := 84) hG ha rfl) (zr (k := 46) (t2 := 99) hG ha rfl) (by decide))), e_s5, zU_at (Or.inl (zne (zr (k := 27) (t2 := 84) hG ha rfl) (zr (k := 46) (t2 := 99) hG ha rfl) (by decide)))])
      refine j_callV hx hG (c_X12_back hst a) lk_RX12_450 ha (by decide) rfl rfl rfl rfl [] ⟨rfl, hG, hS_s7, ha⟩ rfl rfl ⟨by decide, by decide⟩ ⟨by decide, by decide⟩ (k2 := 0) (n2 := 0) rfl rfl (Nat.le_of_ble_eq_true rfl) dX12_laws_71 (kVM (fun s8 hS_s8 hF_s8 q129 => ?_))
      refine j_iload_n hx 2 dX12_laws_74 rfl ?_
      refine j_if_ne hx 85 dX12_laws_75 rfl (by omega) (fun h130 => ?_) (fun h130 => ?_)
      · skip
        refine j_aload_n hx 0 dX12_laws_85 rfl ?_
        have f131 := zf hS_s7 ha (k := 52) rfl
        refine g13_52 hx hG ha kf_RX12_429 (v := (s7 a 52)) (by rw [(zFr_g hF_s8 ha (by decide))]) dX12_laws_86 ?_
        have g132 : s8 a 3 = s7 a 3 := (by rw [(zFr_g hF_s8 ha (by decide))])
        have f133 := zf hS_s7 ha (k := 3) rfl
        have g134 : s8 a 4 = s7 a 4 := (by rw [(zFr_g hF_s8 ha (by decide))])
        have f135 := zf hS_s7 ha (k := 4) rfl
        have g136 : s8 a 5 = s7 a 5 := (by rw [(zFr_g hF_s8 ha (by decide))])
        have f137 := zf hS_s7 ha (k := 5) rfl
        have g138 : s8 a 7 = s7 a 7 := (by rw [(zFr_g hF_s8 ha (by decide))])
        have f139 := zf hS_s7 ha (k := 7) rfl
        have g140 : s8 a 21 = s7 a 21 := (by rw [(zFr_g hF_s8 ha (by decide))])
        have f141 := zf hS_s7 ha (k := 21) rfl
        have g142 : s8 a 22 = s7 a 22 := (by rw [(zFr_g hF_s8 ha (by decide))])
        have f143 := zf hS_s7 ha (k := 22) rfl
        have g144 : s8 a 23 = s7 a 23 := (by rw [(zFr_g hF_s8 ha (by decide))])
        have f145 := zf hS_s7 ha (k := 23) rfl
        have g146 : s8 a 24 = s7 a 24 := (by rw [(zFr_g hF_s8 ha (by decide))])
        have f147 := zf hS_s7 ha (k := 24) rfl
        have g148 : s8 a 38 = s7 a 38 := (by rw [(zFr_g hF_s8 ha (by decide))])
        have f149 := zf hS_s7 ha (k := 38) rfl
        exact j_iret hx hq rfl (by decide) (by decide) dX12_laws_89 ⟨(s7 a 52), rfl, rfl, hS_s8, (zFr_t (zFr_t (zFr_u (zFr_u (zFr_t (zFr_u zFr_rf e_s1 ha (by decide)) hF_s4 (by decide)) e_s5 (zr (k := 27) (t2 := 84) hG ha rfl) (by decide)) e_s6 (zr (k := 27) (t2 := 84) hG ha rfl) (by decide)) hF_s7 (by decide)) hF_s8 (by decide)), ⟨(by omega), by omega, by omega, by omega, by omega, by omega, by omega, by omega, by omega, by omega, by omega, by omega⟩⟩
      · skip
        refine j_aload_n hx 0 dX12_laws_78 rfl ?_
        have f150 := zf hS_s7 ha (k := 54) rfl
        refine g13_54 hx hG ha kf_RX12_441 (v := (s7 a 54)) (by rw [(zFr_g hF_s8 ha (by decide))]) dX12_laws_79 ?_
        refine j_goto hx 89 dX12_laws_82 rfl ?_
        have g151 : s8 a 3 = s7 a 3 := (by rw [(zFr_g hF_s8 ha (by decide))])
        have f152 := zf hS_s7 ha (k := 3) rfl
        have g153 : s8 a 4 = s7 a 4 := (by rw [(zFr_g hF_s8 ha (by decide))])
        have f154 := zf hS_s7 ha (k := 4) rfl
        have g155 : s8 a 5 = s7 a 5 := (by rw [(zFr_g hF_s8 ha (by decide))])
        have f156 := zf hS_s7 ha (k := 5) rfl
        have g157 : s8 a 7 = s7 a 7 := (by rw [(zFr_g hF_s8 ha (by decide))])
        have f158 := zf hS_s7 ha (k := 7) rfl
        have g159 : s8 a 21 = s7 a 21 := (by rw [(zFr_g hF_s8 ha (by decide))])
        have f160 := zf hS_s7 ha (k := 21) rfl
        have g161 : s8 a 22 = s7 a 22 := (by rw [(zFr_g hF_s8 ha (by decide))])
        have f162 := zf hS_s7 ha (k := 22) rfl
        have g163 : s8 a 23 = s7 a 23 := (by rw [(zFr_g hF_s8 ha (by decide))])
        have f164 := zf hS_s7 ha (k := 23) rfl
        have g165 : s8 a 24 = s7 a 24 := (by rw [(zFr_g hF_s8 ha (by decide))])
        have f166 := zf hS_s7 ha (k := 24) rfl
        have g167 : s8 a 38 = s7 a 38 := (by rw [(zFr_g hF_s8 ha (by decide))])
        have f168 := zf hS_s7 ha (k := 38) rfl
        exact j_iret hx hq rfl (by decide) (by decide) dX12_laws_89 ⟨(s7 a 54), rfl, rfl, hS_s8, (zFr_t (zFr_t (zFr_u (zFr_u (zFr_t (zFr_u zFr_rf e_s1 ha (by decide)) hF_s4 (by decide)) e_s5 (zr (k := 27) (t2 := 84) hG ha rfl) (by decide)) e_s6 (zr (k := 27) (t2 := 84) hG ha rfl) (by decide)) hF_s7 (by decide)) hF_s8 (by decide)), ⟨(by omega), by omega, by omega, by omega, by omega, by omega, by omega, by omega, by omega, by omega, by omega, by omega⟩⟩

set_option maxHeartbeats 1200000 in
set_option maxRecDepth 20000 in
theorem c_X12_right {E : zE} {l : Launch} (hst : l.stackTraces = false) (a : Nat) : Con E l yX12_right cX12_right 2 (some .int) { frames := 0, cells := 0, slots := 0, locals := 0 } (fun G s vs => vs = [.ref a] ∧ zGK G ∧ zSK G s ∧ (gT G a = 13)) (fun G s _ => pI (fun r G2 s2 => G2 = G ∧ zSK G s2 ∧ zFr [13] G s s2 ∧ ((-2147483648) ≤ r ∧ r ≤ 2147483647) ∧ s2 a 3 = s a 3 ∧ s2 a 4 = s a 4 ∧ s2 a 5 = s a 5 ∧ s2 a 7 = s a 7 ∧ s2 a 21 = s a 21 ∧ s2 a 22 = s a 22 ∧ s2 a 23 = s a 23 ∧ s2 a 24 = s a 24 ∧ s2 a 38 = s a 38 ∧ s2 a 51 = s a 51 ∧ s2 a 52 = s a 52)) := by
  refine Con.mk hst (by decide) (fun G s vs h => by rw [h.1]; exact Nat.le_of_ble_eq_true rfl) ?_
  rintro X G s0 vs ⟨rfl, hG, hS0, ha⟩ rfl hx hq
  show JJ X E 2 G s0 0 0 [(0, .ref a)] 0 []
  refine j_aload_n hx 0 dX12_right_0 rfl ?_
  refine j_iconst hx dX12_right_1 ?_
  refine p13_0 hx hG ha kf_RX12_3 dX12_right_2 ?_
  obtain ⟨s1, e_s1⟩ : ∃ z, z = zU s0 a 0 0 := ⟨_, rfl⟩
  rw [← e_s1]
  have hS_s1 : zSK G s1 := by rw [e_s1]; exact zSK_F hS0 ha rfl rfl rfl (by omega)
  refine j_iconst hx dX12_right_5 ?_
  refine j_istore_n hx [(1, .int (zI 0)), (0, .ref a)] dX12_right_6 (by decide) rfl ?_
  have c7_2 : ∀ (m_c7_2 : Nat) (v1 : Int), 2147483648 - v1 < m_c7_2 → (0 ≤ v1 ∧ v1 ≤ 12) → JJ X E 2 G s1 0 0 [(0, .ref a), (1, .int (zI v1))] 7 [] := by
    intro m_c7_2
    induction m_c7_2 with
    | zero => intro v1 hm_c7_2 fA3; exfalso; omega
    | succ m_c7_2 ih_c7_2 => 
      intro v1 hm_c7_2 fA3
      refine j_iload_n hx 1 dX12_right_7 rfl ?_
      refine j_aload_n hx 0 dX12_right_8 rfl ?_
      have f2 := zf hS0 ha (k := 41) rfl
      refine g13_41 hx hG ha kf_RX12_198 (v := (s0 a 41)) (by rw [e_s1, zU_at (Or.inr (by decide))]) dX12_right_9 ?_
      refine j_icmp_ge hx 66 dX12_right_12 rfl (by omega) (by omega) (fun h3 => ?_) (fun h3 => ?_)
      · skip
        refine j_iload_n hx 1 dX12_right_66 rfl ?_
        have g4 : s1 a 3 = s0 a 3 := (by rw [e_s1, zU_at (Or.inr (by decide))])
        have f5 := zf hS0 ha (k := 3) rfl
        have g6 : s1 a 4 = s0 a 4 := (by rw [e_s1, zU_at (Or.inr (by decide))])
        have f7 := zf hS0 ha (k := 4) rfl
        have g8 : s1 a 5 = s0 a 5 := (by rw [e_s1, zU_at (Or.inr (by decide))])
        have f9 := zf hS0 ha (k := 5) rfl
        have g10 : s1 a 7 = s0 a 7 := (by rw [e_s1, zU_at (Or.inr (by decide))])
        have f11 := zf hS0 ha (k := 7) rfl
        have g12 : s1 a 21 = s0 a 21 := (by rw [e_s1, zU_at (Or.inr (by decide))])
        have f13 := zf hS0 ha (k := 21) rfl
        have g14 : s1 a 22 = s0 a 22 := (by rw [e_s1, zU_at (Or.inr (by decide))])
        have f15 := zf hS0 ha (k := 22) rfl
        have g16 : s1 a 23 = s0 a 23 := (by rw [e_s1, zU_at (Or.inr (by decide))])
        have f17 := zf hS0 ha (k := 23) rfl
        have g18 : s1 a 24 = s0 a 24 := (by rw [e_s1, zU_at (Or.inr (by decide))])
        have f19 := zf hS0 ha (k := 24) rfl
        have g20 : s1 a 38 = s0 a 38 := (by rw [e_s1, zU_at (Or.inr (by decide))])
        have f21 := zf hS0 ha (k := 38) rfl
        have g22 : s1 a 51 = s0 a 51 := (by rw [e_s1, zU_at (Or.inr (by decide))])
        have f23 := zf hS0 ha (k := 51) rfl
        have g24 : s1 a 52 = s0 a 52 := (by rw [e_s1, zU_at (Or.inr (by decide))])
        have f25 := zf hS0 ha (k := 52) rfl
        exact j_iret hx hq rfl (by decide) (by decide) dX12_right_67 ⟨v1, rfl, rfl, hS_s1, (zFr_u zFr_rf e_s1 ha (by decide)), ⟨(by omega), by omega, by omega, by omega, by omega, by omega, by omega, by omega, by omega, by omega, by omega, by omega⟩⟩
      · skip
        refine j_aload_n hx 0 dX12_right_15 rfl ?_
        refine g13_40 hx hG ha kf_RX12_92 dX12_right_16 ?_
        refine j_iconst hx dX12_right_19 ?_
        refine j_iload_n hx 1 dX12_right_20 rfl ?_
        refine j_imul hx (r := 2 * v1) dX12_right_21 rfl ?_
        have f26 := zaI (j := (2 * v1).toNat) hS0 (zr (k := 40) (t2 := 97) hG ha rfl) rfl (zlen hG (zr (k := 40) (t2 := 97) hG ha rfl) (n := 24) rfl rfl) (show 0 ≤ 2 * v1 by omega) (by omega) rfl
        refine j_iald hx hG (zr (k := 40) (t2 := 97) hG ha rfl) (by decide) rfl (zlen hG (zr (k := 40) (t2 := 97) hG ha rfl) (n := 24) rfl rfl) (by omega) (by omega) (j := (2 * v1).toNat) rfl (v := (s0 (gP G a 40) (2 * v1).toNat)) (by rw [e_s1, zU_at (Or.inl (zne ha (zr (k := 40) (t2 := 97) hG ha rfl) (by decide)))]) dX12_right_22 ?_
        refine j_aload_n hx 0 dX12_right_23 rfl ?_
        refine g13_27 hx hG ha kf_RX12_56 dX12_right_24 ?_
        refine j_sipush hx dX12_right_27 rfl ?_
        have f27 := zaQ (j := 488) hS0 (zr (k := 27) (t2 := 84) hG ha rfl) (congrArg some (axS_4 488 (by omega))) (zlen hG (zr (k := 27) (t2 := 84) hG ha rfl) (n := 515) rfl rfl) (show 0 ≤ 488 by omega) (by omega) rfl
        refine j_iald hx hG (zr (k := 27) (t2 := 84) hG ha rfl) (by decide) rfl (zlen hG (zr (k := 27) (t2 := 84) hG ha rfl) (n := 515) rfl rfl) (by omega) (by omega) (j := 488) rfl (v := (s0 (gP G a 27) 488)) (by rw [e_s1, zU_at (Or.inl (zne ha (zr (k := 27) (t2 := 84) hG ha rfl) (by decide)))]) dX12_right_30 ?_
        refine j_icmp_ge hx 66 dX12_right_31 rfl (by omega) (by omega) (fun h28 => ?_) (fun h28 => ?_)
        · skip
          refine j_iload_n hx 1 dX12_right_66 rfl ?_
          have g29 : s1 a 3 = s0 a 3 := (by rw [e_s1, zU_at (Or.inr (by decide))])
          have f30 := zf hS0 ha (k := 3) rfl
          have g31 : s1 a 4 = s0 a 4 := (by rw [e_s1, zU_at (Or.inr (by decide))])
          have f32 := zf hS0 ha (k := 4) rfl
          have g33 : s1 a 5 = s0 a 5 := (by rw [e_s1, zU_at (Or.inr (by decide))])
          have f34 := zf hS0 ha (k := 5) rfl
          have g35 : s1 a 7 = s0 a 7 := (by rw [e_s1, zU_at (Or.inr (by decide))])
          have f36 := zf hS0 ha (k := 7) rfl
          have g37 : s1 a 21 = s0 a 21 := (by rw [e_s1, zU_at (Or.inr (by decide))])
          have f38 := zf hS0 ha (k := 21) rfl
          have g39 : s1 a 22 = s0 a 22 := (by rw [e_s1, zU_at (Or.inr (by decide))])
          have f40 := zf hS0 ha (k := 22) rfl
          have g41 : s1 a 23 = s0 a 23 := (by rw [e_s1, zU_at (Or.inr (by decide))])
          have f42 := zf hS0 ha (k := 23) rfl
          have g43 : s1 a 24 = s0 a 24 := (by rw [e_s1, zU_at (Or.inr (by decide))])
          have f44 := zf hS0 ha (k := 24) rfl
          have g45 : s1 a 38 = s0 a 38 := (by rw [e_s1, zU_at (Or.inr (by decide))])
          have f46 := zf hS0 ha (k := 38) rfl
          have g47 : s1 a 51 = s0 a 51 := (by rw [e_s1, zU_at (Or.inr (by decide))])
          have f48 := zf hS0 ha (k := 51) rfl
          have g49 : s1 a 52 = s0 a 52 := (by rw [e_s1, zU_at (Or.inr (by decide))])
          have f50 := zf hS0 ha (k := 52) rfl
          exact j_iret hx hq rfl (by decide) (by decide) dX12_right_67 ⟨v1, rfl, rfl, hS_s1, (zFr_u zFr_rf e_s1 ha (by decide)), ⟨(by omega), by omega, by omega, by omega, by omega, by omega, by omega, by omega, by omega, by omega, by omega, by omega⟩⟩
        · skip
          refine j_aload_n hx 0 dX12_right_34 rfl ?_
          refine g13_29 hx hG ha kf_RX12_62 dX12_right_35 ?_
          refine j_aload_n hx 0 dX12_right_38 rfl ?_
          refine g13_40 hx hG ha kf_RX12_92 dX12_right_39 ?_
          refine j_iconst hx dX12_right_42 ?_
          refine j_iload_n hx 1 dX12_right_43 rfl ?_
          refine j_imul hx (r := 2 * v1) dX12_right_44 rfl ?_
          refine j_iald hx hG (zr (k := 40) (t2 := 97) hG ha rfl) (by decide) rfl (zlen hG (zr (k := 40) (t2 := 97) hG ha rfl) (n := 24) rfl rfl) (by omega) (by omega) (j := (2 * v1).toNat) rfl (v := (s0 (gP G a 40) (2 * v1).toNat)) (by rw [e_s1, zU_at (Or.inl (zne ha (zr (k := 40) (t2 := 97) hG ha rfl) (by decide)))]) dX12_right_45 ?_
          have f51 := zaI (j := ((s0 (gP G a 40) (2 * v1).toNat)).toNat) hS0 (zr (k := 29) (t2 := 86) hG ha rfl) rfl (zlen hG (zr (k := 29) (t2 := 86) hG ha rfl) (n := 10000) rfl rfl) (show 0 ≤ (s0 (gP G a 40) (2 * v1).toNat) by omega) (by omega) rfl
          refine j_iald hx hG (zr (k := 29) (t2 := 86) hG ha rfl) (by decide) rfl (zlen hG (zr (k := 29) (t2 := 86) hG ha rfl) (n := 10000) rfl rfl) (by omega) (by omega) (j := ((s0 (gP G a 40) (2 * v1).toNat)).toNat) rfl (v := (s0 (gP G a 29) ((s0 (gP G a 40) (2 * v1).toNat)).toNat)) (by rw [e_s1, zU_at (Or.inl (zne ha (zr (k := 29) (t2 := 86) hG ha rfl) (by decide)))]) dX12_right_46 ?_
          refine j_aload_n hx 0 dX12_right_47 rfl ?_
          refine g13_40 hx hG ha kf_RX12_92 dX12_right_48 ?_
          refine j_iconst hx dX12_right_51 ?_
          refine j_iload_n hx 1 dX12_right_52 rfl ?_
          refine j_imul hx (r := 2 * v1) dX12_right_53 rfl ?_
          refine j_iconst hx dX12_right_54 ?_
          refine j_iadd hx (r := 2 * v1 + 1) dX12_right_55 (by omega) ?_
          have f52 := zaI (j := (2 * v1 + 1).toNat) hS0 (zr (k := 40) (t2 := 97) hG ha rfl) rfl (zlen hG (zr (k := 40) (t2 := 97) hG ha rfl) (n := 24) rfl rfl) (show 0 ≤ 2 * v1 + 1 by omega) (by omega) rfl
          refine j_iald hx hG (zr (k := 40) (t2 := 97) hG ha rfl) (by decide) rfl (zlen hG (zr (k := 40) (t2 := 97) hG ha rfl) (n := 24) rfl rfl) (by omega) (by omega) (j := (2 * v1 + 1).toNat) rfl (v := (s0 (gP G a 40) (2 * v1 + 1).toNat)) (by rw [e_s1, zU_at (Or.inl (zne ha (zr (k := 40) (t2 := 97) hG ha rfl) (by decide)))]) dX12_right_56 ?_
          refine j_icmp_ne hx 66 dX12_right_57 rfl (by omega) (by omega) (fun h53 => ?_) (fun h53 => ?_)
          · skip
            refine j_iload_n hx 1 dX12_right_66 rfl ?_
            have g54 : s1 a 3 = s0 a 3 := (by rw [e_s1, zU_at (Or.inr (by decide))])
            have f55 := zf hS0 ha (k := 3) rfl
            have g56 : s1 a 4 = s0 a 4 := (by rw [e_s1, zU_at (Or.inr (by decide))])
            have f57 := zf hS0 ha (k := 4) rfl
            have g58 : s1 a 5 = s0 a 5 := (by rw [e_s1, zU_at (Or.inr (by decide))])
            have f59 := zf hS0 ha (k := 5) rfl
            have g60 : s1 a 7 = s0 a 7 := (by rw [e_s1, zU_at (Or.inr (by decide))])
            have f61 := zf hS0 ha (k := 7) rfl
            have g62 : s1 a 21 = s0 a 21 := (by rw [e_s1, zU_at (Or.inr (by decide))])
            have f63 := zf hS0 ha (k := 21) rfl
            have g64 : s1 a 22 = s0 a 22 := (by rw [e_s1, zU_at (Or.inr (by decide))])
            have f65 := zf hS0 ha (k := 22) rfl
            have g66 : s1 a 23 = s0 a 23 := (by rw [e_s1, zU_at (Or.inr (by decide))])
            have f67 := zf hS0 ha (k := 23) rfl
            have g68 : s1 a 24 = s0 a 24 := (by rw [e_s1, zU_at (Or.inr (by decide))])
            have f69 := zf hS0 ha (k := 24) rfl
            have g70 : s1 a 38 = s0 a 38 := (by rw [e_s1, zU_at (Or.inr (by decide))])
            have f71 := zf hS0 ha (k := 38) rfl
            have g72 : s1 a 51 = s0 a 51 := (by rw [e_s1, zU_at (Or.inr (by decide))])
            have f73 := zf hS0 ha (k := 51) rfl
            have g74 : s1 a 52 = s0 a 52 := (by rw [e_s1, zU_at (Or.inr (by decide))])
            have f75 := zf hS0 ha (k := 52) rfl
            exact j_iret hx hq rfl (by decide) (by decide) dX12_right_67 ⟨v1, rfl, rfl, hS_s1, (zFr_u zFr_rf e_s1 ha (by decide)), ⟨(by omega), by omega, by omega, by omega, by omega, by omega, by omega, by omega, by omega, by omega, by omega, by omega⟩⟩
          · skip
            refine j_iinc hx 1 [(1, .int (zI (v1 + 1))), (0, .ref a)] dX12_right_60 rfl (by omega) (by decide) rfl ?_
            refine j_goto hx 7 dX12_right_63 rfl ?_
            exact j_sub [1, 0] [(0, .ref a), (1, .int (zI (v1 + 1)))] rfl (ih_c7_2 (v1 + 1) (by omega) (by omega))
  exact j_sub [1, 0] [(0, .ref a), (1, .int (zI 0))] rfl (c7_2 (2147483648 * 4) 0 (by omega) (by omega))

set_option maxHeartbeats 1200000 in
set_option maxRecDepth 20000 in
theorem c_X12_entry {E : zE} {l : Launch} (hst : l.stackTraces = false) (a : Nat) (x1 : Int) (x2 : Int) : Con E l yX12_entry cX12_entry 3 (some .int) { frames := 1, cells := 0, slots := 0, locals := 23 } (fun G s vs => vs = [.ref a, .int (zI x1), .int (zI x2)] ∧ zGK G ∧ zSK G s ∧ (gT G a = 13) ∧ ((-2147483648) ≤ x1 ∧ x1 ≤ 2147483647) ∧ ((-2147483648) ≤ x2 ∧ x2 ≤ 2147483647)) (fun G s _ => pI (fun r G2 s2 => G2 = G ∧ zSK G s2 ∧ zFr [13, 71] G s s2 ∧ ((-2147483648) ≤ r ∧ r ≤ 2147483647) ∧ s2 a 3 = s a 3 ∧ s2 a 4 = s a 4 ∧ s2 a 5 = s a 5 ∧ s2 a 7 = s a 7 ∧ s2 a 21 = s a 21 ∧ s2 a 22 = s a 22 ∧ s2 a 23 = s a 23 ∧ s2 a 24 = s a 24 ∧ s2 a 38 = s a 38 ∧ s2 a 51 = s a 51 ∧ s2 a 52 = s a 52)) := by
  refine Con.mk hst (by decide) (fun G s vs h => by rw [h.1]; exact Nat.le_of_ble_eq_true rfl) ?_
  rintro X G s0 vs ⟨rfl, hG, hS0, ha, hx1, hx2⟩ rfl hx hq
  show JJ X E 3 G s0 0 0 [(0, .ref a), (1, .int (zI x1)), (2, .int (zI x2))] 0 []
  refine j_aload_n hx 0 dX12_entry_0 rfl ?_
  refine j_iconst hx dX12_entry_1 ?_
  refine p13_0 hx hG ha kf_RX12_3 dX12_entry_2 ?_
  obtain ⟨s1, e_s1⟩ : ∃ z, z = zU s0 a 0 0 := ⟨_, rfl⟩
  rw [← e_s1]
  have hS_s1 : zSK G s1 := by rw [e_s1]; exact zSK_F hS0 ha rfl rfl rfl (by omega)
  refine j_aload_n hx 0 dX12_entry_5 rfl ?_
  refine j_iload_n hx 2 dX12_entry_6 rfl ?_
  refine j_iconst hx dX12_entry_7 ?_
  refine j_iconst hx dX12_entry_8 ?_
  refine j_callS hx (c_X12_within hst x2 0 1) lk_RX12_314 [.int (zI x2), .int (zI 0), .int (zI 1)] ⟨rfl, hG, hS_s1, (by omega), (by omega), (by omega)⟩ rfl rfl ⟨by decide, by decide⟩ ⟨by decide, by decide⟩ (k2 := 0) (n2 := 0) rfl rfl (Nat.le_of_ble_eq_true rfl) dX12_entry_9 (kIP (fun v1 q2 => ?_))
  refine j_iconst hx dX12_entry_12 ?_
  refine j_iconst hx dX12_entry_13 ?_
  rcases (show v1 = 0 ∨ v1 = 1 by omega) with rfl | rfl
  · skip
    have g4 : s1 a 0 = 0 := (by rw [e_s1, zU_eq])
    have g5 : s1 a 3 = s0 a 3 := (by rw [e_s1, zU_at (Or.inr (by decide))])
    have f6 := zf hS0 ha (k := 3) rfl
    have g7 : s1 a 4 = s0 a 4 := (by rw [e_s1, zU_at (Or.inr (by decide))])
    have f8 := zf hS0 ha (k := 4) rfl
    have g9 : s1 a 5 = s0 a 5 := (by rw [e_s1, zU_at (Or.inr (by decide))])
    have f10 := zf hS0 ha (k := 5) rfl
    have g11 : s1 a 7 = s0 a 7 := (by rw [e_s1, zU_at (Or.inr (by decide))])
    have f12 := zf hS0 ha (k := 7) rfl
    have g13 : s1 a 21 = s0 a 21 := (by rw [e_s1, zU_at (Or.inr (by decide))])
    have f14 := zf hS0 ha (k := 21) rfl
    have g15 : s1 a 22 = s0 a 22 := (by rw [e_s1, zU_at (Or.inr (by decide))])
    have f16 := zf hS0 ha (k := 22) rfl
    have g17 : s1 a 23 = s0 a 23 := (by rw [e_s1, zU_at (Or.inr (by decide))])
    have f18 := zf hS0 ha (k := 23) rfl
    have g19 : s1 a 24 = s0 a 24 := (by rw [e_s1, zU_at (Or.inr (by decide))])
    have f20 := zf hS0 ha (k := 24) rfl
    have g21 : s1 a 38 = s0 a 38 := (by rw [e_s1, zU_at (Or.inr (by decide))])
    have f22 := zf hS0 ha (k := 38) rfl
    have g23 : s1 a 51 = s0 a 51 := (by rw [e_s1, zU_at (Or.inr (by decide))])
    have f24 := zf hS0 ha (k := 51) rfl
    have g25 : s1 a 52 = s0 a 52 := (by rw [e_s1, zU_at (Or.inr (by decide))])
    have f26 := zf hS0 ha (k := 52) rfl
    refine j_callV hx hG (c_X12_may_f hst a 0 1 1) lk_RX12_240 ha (by decide) rfl rfl rfl rfl [.int (zI 0), .int (zI 1), .int (zI 1)] ⟨rfl, hG, hS_s1, ha, (by omega), (by omega), (by omega), (((by rw [e_s1, zU_eq]) : s1 a 0 = 0).trans (by omega))⟩ rfl rfl ⟨by decide, by decide⟩ ⟨by decide, by decide⟩ (k2 := 0) (n2 := 0) rfl rfl (Nat.le_of_ble_eq_true rfl) dX12_entry_14 (kIM (fun v27 s2 hS_s2 hF_s2 q28 => ?_))
    refine j_if_ne hx 22 dX12_entry_17 rfl (by omega) (fun h29 => absurd h29 (by omega)) (fun h29 => ?_)
    refine j_iconst hx dX12_entry_20 ?_
    have f30 := zf hS_s2 ha (k := 3) rfl
    have f31 := zf hS_s2 ha (k := 4) rfl
    have f32 := zf hS_s2 ha (k := 5) rfl
    have f33 := zf hS_s2 ha (k := 7) rfl
    have f34 := zf hS_s2 ha (k := 21) rfl
    have f35 := zf hS_s2 ha (k := 22) rfl
    have f36 := zf hS_s2 ha (k := 23) rfl
    have f37 := zf hS_s2 ha (k := 24) rfl
    have f38 := zf hS_s2 ha (k := 38) rfl
    have f39 := zf hS_s2 ha (k := 51) rfl
    have f40 := zf hS_s2 ha (k := 52) rfl
    exact j_iret hx hq rfl (by decide) (by decide) dX12_entry_21 ⟨0, rfl, rfl, hS_s2, (zFr_t (zFr_u zFr_rf e_s1 ha (by decide)) hF_s2 (by decide)), ⟨(by omega), by omega, by omega, by omega, by omega, by omega, by omega, by omega, by omega, by omega, by omega, by omega⟩⟩
  · skip
    have g41 : s1 a 0 = 0 := (by rw [e_s1, zU_eq])
    refine j_callV hx hG (c_X12_may_t hst a 1 1 1) lk_RX12_240 ha (by decide) rfl rfl rfl rfl [.int (zI 1), .int (zI 1), .int (zI 1)] ⟨rfl, hG, hS_s1, ha, (by omega), (by omega), (by omega), (((by rw [e_s1, zU_eq]) : s1 a 0 = 0).trans (by omega))⟩ rfl rfl ⟨by decide, by decide⟩ ⟨by decide, by decide⟩ (k2 := 0) (n2 := 0) rfl rfl (Nat.le_of_ble_eq_true rfl) dX12_entry_14 (kIP (fun v42 q43 => ?_))
    refine j_if_ne hx 22 dX12_entry_17 rfl (by omega) (fun h44 => ?_) (fun h44 => absurd h44 (by omega))
    refine j_iload_n hx 1 dX12_entry_22 rfl ?_
    refine j_iconst hx dX12_entry_23 ?_
    refine j_aload_n hx 0 dX12_entry_24 rfl ?_
    have f45 := zf hS0 ha (k := 41) rfl
    refine g13_41 hx hG ha kf_RX12_198 (v := (s0 a 41)) (by rw [e_s1, zU_at (Or.inr (by decide))]) dX12_entry_25 ?_
    refine j_iconst hx dX12_entry_28 ?_
    refine j_isub hx (r := (s0 a 41) - 1) dX12_entry_29 (by omega) ?_
    refine j_callS hx (c_X12_within hst x1 0 ((s0 a 41) - 1)) lk_RX12_314 [.int (zI x1), .int (zI 0), .int (zI ((s0 a 41) - 1))] ⟨rfl, hG, hS_s1, (by omega), (by omega), (by omega)⟩ rfl rfl ⟨by decide, by decide⟩ ⟨by decide, by decide⟩ (k2 := 0) (n2 := 0) rfl rfl (Nat.le_of_ble_eq_true rfl) dX12_entry_30 (kIP (fun v46 q47 => ?_))
    refine j_if_eq hx 49 dX12_entry_33 rfl (by omega) (fun h48 => ?_) (fun h48 => ?_)
    · skip
      refine j_iconst hx dX12_entry_49 ?_
      have g49 : s1 a 3 = s0 a 3 := (by rw [e_s1, zU_at (Or.inr (by decide))])
      have f50 := zf hS0 ha (k := 3) rfl
      have g51 : s1 a 4 = s0 a 4 := (by rw [e_s1, zU_at (Or.inr (by decide))])
      have f52 := zf hS0 ha (k := 4) rfl
      have g53 : s1 a 5 = s0 a 5 := (by rw [e_s1, zU_at (Or.inr (by decide))])
      have f54 := zf hS0 ha (k := 5) rfl
      have g55 : s1 a 7 = s0 a 7 := (by rw [e_s1, zU_at (Or.inr (by decide))])
      have f56 := zf hS0 ha (k := 7) rfl
      have g57 : s1 a 21 = s0 a 21 := (by rw [e_s1, zU_at (Or.inr (by decide))])
      have f58 := zf hS0 ha (k := 21) rfl
      have g59 : s1 a 22 = s0 a 22 := (by rw [e_s1, zU_at (Or.inr (by decide))])
      have f60 := zf hS0 ha (k := 22) rfl
      have g61 : s1 a 23 = s0 a 23 := (by rw [e_s1, zU_at (Or.inr (by decide))])
      have f62 := zf hS0 ha (k := 23) rfl
      have g63 : s1 a 24 = s0 a 24 := (by rw [e_s1, zU_at (Or.inr (by decide))])
      have f64 := zf hS0 ha (k := 24) rfl
      have g65 : s1 a 38 = s0 a 38 := (by rw [e_s1, zU_at (Or.inr (by decide))])
      have f66 := zf hS0 ha (k := 38) rfl
      have g67 : s1 a 51 = s0 a 51 := (by rw [e_s1, zU_at (Or.inr (by decide))])
      have f68 := zf hS0 ha (k := 51) rfl
      have g69 : s1 a 52 = s0 a 52 := (by rw [e_s1, zU_at (Or.inr (by decide))])
      have f70 := zf hS0 ha (k := 52) rfl
      exact j_iret hx hq rfl (by decide) (by decide) dX12_entry_50 ⟨(-1), rfl, rfl, hS_s1, (zFr_u zFr_rf e_s1 ha (by decide)), ⟨(by omega), by omega, by omega, by omega, by omega, by omega, by omega, by omega, by omega, by omega, by omega, by omega⟩⟩
    · skip
      refine j_aload_n hx 0 dX12_entry_36 rfl ?_
      refine g13_40 hx hG ha kf_RX12_92 dX12_entry_37 ?_
      refine j_iconst hx dX12_entry_40 ?_
      refine j_iload_n hx 1 dX12_entry_41 rfl ?_
      refine j_imul hx (r := 2 * x1) dX12_entry_42 rfl ?_
      refine j_iload_n hx 2 dX12_entry_43 rfl ?_
      refine j_iadd hx (r := 2 * x1 + x2) dX12_entry_44 (by omega) ?_
      have f71 := zaI (j := (2 * x1 + x2).toNat) hS0 (zr (k := 40) (t2 := 97) hG ha rfl) rfl (zlen hG (zr (k := 40) (t2 := 97) hG ha rfl) (n := 24) rfl rfl) (show 0 ≤ 2 * x1 + x2 by omega) (by omega) rfl
      refine j_iald hx hG (zr (k := 40) (t2 := 97) hG ha rfl) (by decide) rfl (zlen hG (zr (k := 40) (t2 := 97) hG ha rfl) (n := 24) rfl rfl) (by omega) (by omega) (j := (2 * x1 + x2).toNat) rfl (v := (s0 (gP G a 40) (2 * x1 + x2).toNat)) (by rw [e_s1, zU_at (Or.inl (zne ha (zr (k := 40) (t2 := 97) hG ha rfl) (by decide)))]) dX12_entry_45 ?_
      refine j_goto hx 50 dX12_entry_46 rfl ?_
      have g72 : s1 a 3 = s0 a 3 := (by rw [e_s1, zU_at (Or.inr (by decide))])
      have f73 := zf hS0 ha (k := 3) rfl
      have g74 : s1 a 4 = s0 a 4 := (by rw [e_s1, zU_at (Or.inr (by decide))])
      have f75 := zf hS0 ha (k := 4) rfl
      have g76 : s1 a 5 = s0 a 5 := (by rw [e_s1, zU_at (Or.inr (by decide))])
      have f77 := zf hS0 ha (k := 5) rfl
      have g78 : s1 a 7 = s0 a 7 := (by rw [e_s1, zU_at (Or.inr (by decide))])
      have f79 := zf hS0 ha (k := 7) rfl
      have g80 : s1 a 21 = s0 a 21 := (by rw [e_s1, zU_at (Or.inr (by decide))])
      have f81 := zf hS0 ha (k := 21) rfl
      have g82 : s1 a 22 = s0 a 22 := (by rw [e_s1, zU_at (Or.inr (by decide))])
      have f83 := zf hS0 ha (k := 22) rfl
      have g84 : s1 a 23 = s0 a 23 := (by rw [e_s1, zU_at (Or.inr (by decide))])
      have f85 := zf hS0 ha (k := 23) rfl
      have g86 : s1 a 24 = s0 a 24 := (by rw [e_s1, zU_at (Or.inr (by decide))])
      have f87 := zf hS0 ha (k := 24) rfl
      have g88 : s1 a 38 = s0 a 38 := (by rw [e_s1, zU_at (Or.inr (by decide))])
      have f89 := zf hS0 ha (k := 38) rfl
      have g90 : s1 a 51 = s0 a 51 := (by rw [e_s1, zU_at (Or.inr (by decide))])
      have f91 := zf hS0 ha (k := 51) rfl
      have g92 : s1 a 52 = s0 a 52 := (by rw [e_s1, zU_at (Or.inr (by decide))])
      have f93 := zf hS0 ha (k := 52) rfl
      exact j_iret hx hq rfl (by decide) (by decide) dX12_entry_50 ⟨(s0 (gP G a 40) (2 * x1 + x2).toNat), rfl, rfl, hS_s1, (zFr_u zFr_rf e_s1 ha (by decide)), ⟨(by omega), by omega, by omega, by omega, by omega, by omega, by omega, by omega, by omega, by omega, by omega, by omega⟩⟩
