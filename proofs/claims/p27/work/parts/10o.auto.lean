set_option maxHeartbeats 4000000 in
set_option maxRecDepth 20000 in
theorem c_X12_book {E : zE} {l : Launch} (hst : l.stackTraces = false) (a : Nat) (x1 : Int) : Con E l yX12_book cX12_book 6 (some .int) { frames := 2, cells := 0, slots := 0, locals := 47 } (fun G s vs => vs = [.ref a, .int (zI x1)] ∧ zGK G ∧ zSK G s ∧ (gT G a = 13) ∧ ((-2147483648) ≤ x1 ∧ x1 ≤ 2147483647)) (fun G s _ => pI (fun r G2 s2 => G2 = G ∧ zSK G s2 ∧ zFr [13, 71, 96, 97] G s s2 ∧ ((-2147483648) ≤ r ∧ r ≤ 2147483647) ∧ s2 a 21 = s a 21 ∧ s2 a 22 = s a 22 ∧ s2 a 23 = s a 23 ∧ s2 a 24 = s a 24 ∧ s2 a 38 = s a 38 ∧ s2 a 51 = s a 51 ∧ s2 a 52 = s a 52)) := by
  refine Con.mk hst (by decide) (fun G s vs h => by rw [h.1]; exact Nat.le_of_ble_eq_true rfl) ?_
  rintro X G s0 vs ⟨rfl, hG, hS0, ha, hx1⟩ rfl hx hq
  show JJ X E 6 G s0 0 0 [(0, .ref a), (1, .int (zI x1))] 0 []
  refine j_aload_n hx 0 dX12_book_0 rfl ?_
  refine j_iconst hx dX12_book_1 ?_
  refine p13_0 hx hG ha kf_RX12_3 dX12_book_2 ?_
  obtain ⟨s1, e_s1⟩ : ∃ z, z = zU s0 a 0 0 := ⟨_, rfl⟩
  rw [← e_s1]
  have hS_s1 : zSK G s1 := by rw [e_s1]; exact zSK_F hS0 ha rfl rfl rfl (by omega)
  refine j_aload_n hx 0 dX12_book_5 rfl ?_
  refine j_iload_n hx 1 dX12_book_6 rfl ?_
  refine j_if_lt hx 28 dX12_book_7 rfl (by omega) (fun h1 => ?_) (fun h1 => ?_)
  · skip
    refine j_iconst hx dX12_book_28 ?_
    refine j_iconst hx dX12_book_29 ?_
    refine j_iconst hx dX12_book_30 ?_
    have g2 : s1 a 0 = 0 := (by rw [e_s1, zU_eq])
    have g3 : s1 a 3 = s0 a 3 := (by rw [e_s1, zU_at (Or.inr (by decide))])
    have f4 := zf hS0 ha (k := 3) rfl
    have g5 : s1 a 4 = s0 a 4 := (by rw [e_s1, zU_at (Or.inr (by decide))])
    have f6 := zf hS0 ha (k := 4) rfl
    have g7 : s1 a 5 = s0 a 5 := (by rw [e_s1, zU_at (Or.inr (by decide))])
    have f8 := zf hS0 ha (k := 5) rfl
    have g9 : s1 a 7 = s0 a 7 := (by rw [e_s1, zU_at (Or.inr (by decide))])
    have f10 := zf hS0 ha (k := 7) rfl
    have g11 : s1 a 21 = s0 a 21 := (by rw [e_s1, zU_at (Or.inr (by decide))])
    have f12 := zf hS0 ha (k := 21) rfl
    have g13 : s1 a 22 = s0 a 22 := (by rw [e_s1, zU_at (Or.inr (by decide))])
    have f14 := zf hS0 ha (k := 22) rfl
    have g15 : s1 a 23 = s0 a 23 := (by rw [e_s1, zU_at (Or.inr (by decide))])
    have f16 := zf hS0 ha (k := 23) rfl
    have g17 : s1 a 24 = s0 a 24 := (by rw [e_s1, zU_at (Or.inr (by decide))])
    have f18 := zf hS0 ha (k := 24) rfl
    have g19 : s1 a 38 = s0 a 38 := (by rw [e_s1, zU_at (Or.inr (by decide))])
    have f20 := zf hS0 ha (k := 38) rfl
    have g21 : s1 a 51 = s0 a 51 := (by rw [e_s1, zU_at (Or.inr (by decide))])
    have f22 := zf hS0 ha (k := 51) rfl
    have g23 : s1 a 52 = s0 a 52 := (by rw [e_s1, zU_at (Or.inr (by decide))])
    have f24 := zf hS0 ha (k := 52) rfl
    refine j_callV hx hG (c_X12_may_f hst a 0 1 1) lk_RX12_240 ha (by decide) rfl rfl rfl rfl [.int (zI 0), .int (zI 1), .int (zI 1)] ⟨rfl, hG, hS_s1, ha, (by omega), (by omega), (by omega), (((by rw [e_s1, zU_eq]) : s1 a 0 = 0).trans (by omega))⟩ rfl rfl ⟨by decide, by decide⟩ ⟨by decide, by decide⟩ (k2 := 0) (n2 := 0) rfl rfl (Nat.le_of_ble_eq_true rfl) dX12_book_31 (kIM (fun v25 s2 hS_s2 hF_s2 q26 => ?_))
    refine j_if_ne hx 39 dX12_book_34 rfl (by omega) (fun h27 => absurd h27 (by omega)) (fun h27 => ?_)
    refine j_iconst hx dX12_book_37 ?_
    have f28 := zf hS_s2 ha (k := 21) rfl
    have f29 := zf hS_s2 ha (k := 22) rfl
    have f30 := zf hS_s2 ha (k := 23) rfl
    have f31 := zf hS_s2 ha (k := 24) rfl
    have f32 := zf hS_s2 ha (k := 38) rfl
    have f33 := zf hS_s2 ha (k := 51) rfl
    have f34 := zf hS_s2 ha (k := 52) rfl
    exact j_iret hx hq rfl (by decide) (by decide) dX12_book_38 ⟨0, rfl, rfl, hS_s2, (zFr_t (zFr_u zFr_rf e_s1 ha (by decide)) hF_s2 (by decide)), ⟨(by omega), by omega, by omega, by omega, by omega, by omega, by omega, by omega⟩⟩
  · skip
    refine j_iload_n hx 1 dX12_book_10 rfl ?_
    refine j_aload_n hx 0 dX12_book_11 rfl ?_
    have f35 := zf hS0 ha (k := 2) rfl
    refine g13_2 hx hG ha kf_RX12_134 (v := (s0 a 2)) (by rw [e_s1, zU_at (Or.inr (by decide))]) dX12_book_12 ?_
    refine j_icmp_gt hx 28 dX12_book_15 rfl (by omega) (by omega) (fun h36 => ?_) (fun h36 => ?_)
    · skip
      refine j_iconst hx dX12_book_28 ?_
      refine j_iconst hx dX12_book_29 ?_
      refine j_iconst hx dX12_book_30 ?_
      have g37 : s1 a 0 = 0 := (by rw [e_s1, zU_eq])
      have g38 : s1 a 3 = s0 a 3 := (by rw [e_s1, zU_at (Or.inr (by decide))])
      have f39 := zf hS0 ha (k := 3) rfl
      have g40 : s1 a 4 = s0 a 4 := (by rw [e_s1, zU_at (Or.inr (by decide))])
      have f41 := zf hS0 ha (k := 4) rfl
      have g42 : s1 a 5 = s0 a 5 := (by rw [e_s1, zU_at (Or.inr (by decide))])
      have f43 := zf hS0 ha (k := 5) rfl
      have g44 : s1 a 7 = s0 a 7 := (by rw [e_s1, zU_at (Or.inr (by decide))])
      have f45 := zf hS0 ha (k := 7) rfl
      have g46 : s1 a 21 = s0 a 21 := (by rw [e_s1, zU_at (Or.inr (by decide))])
      have f47 := zf hS0 ha (k := 21) rfl
      have g48 : s1 a 22 = s0 a 22 := (by rw [e_s1, zU_at (Or.inr (by decide))])
      have f49 := zf hS0 ha (k := 22) rfl
      have g50 : s1 a 23 = s0 a 23 := (by rw [e_s1, zU_at (Or.inr (by decide))])
      have f51 := zf hS0 ha (k := 23) rfl
      have g52 : s1 a 24 = s0 a 24 := (by rw [e_s1, zU_at (Or.inr (by decide))])
      have f53 := zf hS0 ha (k := 24) rfl
      have g54 : s1 a 38 = s0 a 38 := (by rw [e_s1, zU_at (Or.inr (by decide))])
      have f55 := zf hS0 ha (k := 38) rfl
      have g56 : s1 a 51 = s0 a 51 := (by rw [e_s1, zU_at (Or.inr (by decide))])
      have f57 := zf hS0 ha (k := 51) rfl
      have g58 : s1 a 52 = s0 a 52 := (by rw [e_s1, zU_at (Or.inr (by decide))])
      have f59 := zf hS0 ha (k := 52) rfl
      refine j_callV hx hG (c_X12_may_f hst a 0 1 1) lk_RX12_240 ha (by decide) rfl rfl rfl rfl [.int (zI 0), .int (zI 1), .int (zI 1)] ⟨rfl, hG, hS_s1, ha, (by omega), (by omega), (by omega), (((by rw [e_s1, zU_eq]) : s1 a 0 = 0).trans (by omega))⟩ rfl rfl ⟨by decide, by decide⟩ ⟨by decide, by decide⟩ (k2 := 0) (n2 := 0) rfl rfl (Nat.le_of_ble_eq_true rfl) dX12_book_31 (kIM (fun v60 s3 hS_s3 hF_s3 q61 => ?_))
      refine j_if_ne hx 39 dX12_book_34 rfl (by omega) (fun h62 => absurd h62 (by omega)) (fun h62 => ?_)
      refine j_iconst hx dX12_book_37 ?_
      have f63 := zf hS_s3 ha (k := 21) rfl
      have f64 := zf hS_s3 ha (k := 22) rfl
      have f65 := zf hS_s3 ha (k := 23) rfl
      have f66 := zf hS_s3 ha (k := 24) rfl
      have f67 := zf hS_s3 ha (k := 38) rfl
      have f68 := zf hS_s3 ha (k := 51) rfl
      have f69 := zf hS_s3 ha (k := 52) rfl
      exact j_iret hx hq rfl (by decide) (by decide) dX12_book_38 ⟨0, rfl, rfl, hS_s3, (zFr_t (zFr_u zFr_rf e_s1 ha (by decide)) hF_s3 (by decide)), ⟨(by omega), by omega, by omega, by omega, by omega, by omega, by omega, by omega⟩⟩
    · skip
      refine j_iload_n hx 1 dX12_book_18 rfl ?_
      refine j_bipush hx dX12_book_19 rfl ?_
      refine j_icmp_gt hx 28 dX12_book_21 rfl (by omega) ⟨by decide, by decide⟩ (fun h70 => ?_) (fun h70 => ?_)
      · skip
        refine j_iconst hx dX12_book_28 ?_
        refine j_iconst hx dX12_book_29 ?_
        refine j_iconst hx dX12_book_30 ?_
        have g71 : s1 a 0 = 0 := (by rw [e_s1, zU_eq])
        have g72 : s1 a 3 = s0 a 3 := (by rw [e_s1, zU_at (Or.inr (by decide))])
        have f73 := zf hS0 ha (k := 3) rfl
        have g74 : s1 a 4 = s0 a 4 := (by rw [e_s1, zU_at (Or.inr (by decide))])
        have f75 := zf hS0 ha (k := 4) rfl
        have g76 : s1 a 5 = s0 a 5 := (by rw [e_s1, zU_at (Or.inr (by decide))])
        have f77 := zf hS0 ha (k := 5) rfl
        have g78 : s1 a 7 = s0 a 7 := (by rw [e_s1, zU_at (Or.inr (by decide))])
        have f79 := zf hS0 ha (k := 7) rfl
        have g80 : s1 a 21 = s0 a 21 := (by rw [e_s1, zU_at (Or.inr (by decide))])
        have f81 := zf hS0 ha (k := 21) rfl
        have g82 : s1 a 22 = s0 a 22 := (by rw [e_s1, zU_at (Or.inr (by decide))])
        have f83 := zf hS0 ha (k := 22) rfl
        have g84 : s1 a 23 = s0 a 23 := (by rw [e_s1, zU_at (Or.inr (by decide))])
        have f85 := zf hS0 ha (k := 23) rfl
        have g86 : s1 a 24 = s0 a 24 := (by rw [e_s1, zU_at (Or.inr (by decide))])
        have f87 := zf hS0 ha (k := 24) rfl
        have g88 : s1 a 38 = s0 a 38 := (by rw [e_s1, zU_at (Or.inr (by decide))])
        have f89 := zf hS0 ha (k := 38) rfl
        have g90 : s1 a 51 = s0 a 51 := (by rw [e_s1, zU_at (Or.inr (by decide))])
        have f91 := zf hS0 ha (k := 51) rfl
        have g92 : s1 a 52 = s0 a 52 := (by rw [e_s1, zU_at (Or.inr (by decide))])
        have f93 := zf hS0 ha (k := 52) rfl
        refine j_callV hx hG (c_X12_may_f hst a 0 1 1) lk_RX12_240 ha (by decide) rfl rfl rfl rfl [.int (zI 0), .int (zI 1), .int (zI 1)] ⟨rfl, hG, hS_s1, ha, (by omega), (by omega), (by omega), (((by rw [e_s1, zU_eq]) : s1 a 0 = 0).trans (by omega))⟩ rfl rfl ⟨by decide, by decide⟩ ⟨by decide, by decide⟩ (k2 := 0) (n2 := 0) rfl rfl (Nat.le_of_ble_eq_true rfl) dX12_book_31 (kIM (fun v94 s4 hS_s4 hF_s4 q95 => ?_))
        refine j_if_ne hx 39 dX12_book_34 rfl (by omega) (fun h96 => absurd h96 (by omega)) (fun h96 => ?_)
        refine j_iconst hx dX12_book_37 ?_
        have f97 := zf hS_s4 ha (k := 21) rfl
        have f98 := zf hS_s4 ha (k := 22) rfl
        have f99 := zf hS_s4 ha (k := 23) rfl
        have f100 := zf hS_s4 ha (k := 24) rfl
        have f101 := zf hS_s4 ha (k := 38) rfl
        have f102 := zf hS_s4 ha (k := 51) rfl
        have f103 := zf hS_s4 ha (k := 52) rfl
        exact j_iret hx hq rfl (by decide) (by decide) dX12_book_38 ⟨0, rfl, rfl, hS_s4, (zFr_t (zFr_u zFr_rf e_s1 ha (by decide)) hF_s4 (by decide)), ⟨(by omega), by omega, by omega, by omega, by omega, by omega, by omega, by omega⟩⟩
      · skip
        refine j_iconst hx dX12_book_24 ?_
        refine j_goto hx 29 dX12_book_25 rfl ?_
        refine j_iconst hx dX12_book_29 ?_
        refine j_iconst hx dX12_book_30 ?_
        have g104 : s1 a 0 = 0 := (by rw [e_s1, zU_eq])
        refine j_callV hx hG (c_X12_may_t hst a 1 1 1) lk_RX12_240 ha (by decide) rfl rfl rfl rfl [.int (zI 1), .int (zI 1), .int (zI 1)] ⟨rfl, hG, hS_s1, ha, (by omega), (by omega), (by omega), (((by rw [e_s1, zU_eq]) : s1 a 0 = 0).trans (by omega))⟩ rfl rfl ⟨by decide, by decide⟩ ⟨by decide, by decide⟩ (k2 := 0) (n2 := 0) rfl rfl (Nat.le_of_ble_eq_true rfl) dX12_book_31 (kIP (fun v105 q106 => ?_))
        refine j_if_ne hx 39 dX12_book_34 rfl (by omega) (fun h107 => ?_) (fun h107 => absurd h107 (by omega))
        refine j_aload_n hx 0 dX12_book_39 rfl ?_
        refine j_iload_n hx 1 dX12_book_40 rfl ?_
        have g108 : s1 a 21 = s0 a 21 := (by rw [e_s1, zU_at (Or.inr (by decide))])
        have f109 := zf hS0 ha (k := 21) rfl
        have g110 : s1 a 22 = s0 a 22 := (by rw [e_s1, zU_at (Or.inr (by decide))])
        have f111 := zf hS0 ha (k := 22) rfl
        have g112 : s1 a 23 = s0 a 23 := (by rw [e_s1, zU_at (Or.inr (by decide))])
        have f113 := zf hS0 ha (k := 23) rfl
        have g114 : s1 a 24 = s0 a 24 := (by rw [e_s1, zU_at (Or.inr (by decide))])
        have f115 := zf hS0 ha (k := 24) rfl
        have g116 : s1 a 38 = s0 a 38 := (by rw [e_s1, zU_at (Or.inr (by decide))])
        have f117 := zf hS0 ha (k := 38) rfl
        have g118 : s1 a 51 = s0 a 51 := (by rw [e_s1, zU_at (Or.inr (by decide))])
        have f119 := zf hS0 ha (k := 51) rfl
        have g120 : s1 a 52 = s0 a 52 := (by rw [e_s1, zU_at (Or.inr (by decide))])
        have f121 := zf hS0 ha (k := 52) rfl
        refine j_callV hx hG (c_X12_begins hst a x1) lk_RX12_244 ha (by decide) rfl rfl rfl rfl [.int (zI x1)] ⟨rfl, hG, hS_s1, ha, (by omega)⟩ rfl rfl ⟨by decide, by decide⟩ ⟨by decide, by decide⟩ (k2 := 0) (n2 := 0) rfl rfl (Nat.le_of_ble_eq_true rfl) dX12_book_41 (kVM (fun s5 hS_s5 hF_s5 q123 => ?_))
        refine j_iconst hx dX12_book_44 ?_
        refine j_istore_n hx [(2, .int (zI 0)), (0, .ref a), (1, .int (zI x1))] dX12_book_45 (by decide) rfl ?_
        have f125 := zf hS_s5 ha (k := 0) rfl
        have f126 := zf hS_s5 ha (k := 3) rfl
        have f127 := zf hS_s5 ha (k := 21) rfl
        have f128 := zf hS_s5 ha (k := 22) rfl
        have f129 := zf hS_s5 ha (k := 23) rfl
        have f130 := zf hS_s5 ha (k := 24) rfl
        have f131 := zf hS_s5 ha (k := 38) rfl
        have f132 := zf hS_s5 ha (k := 51) rfl
        have f133 := zf hS_s5 ha (k := 52) rfl
        have c46_6 : ∀ (m_c46_6 : Nat) (v124 : Int) (s7 : zS), 2 * (1000 - s7 a 4) + max 0 (0 - s7 a 5) < m_c46_6 → (0 ≤ v124 ∧ v124 ≤ 12) → (zSK G s7) → (zFr [13, 96] G s5 s7) → (s7 a 0 = s5 a 0) → (s7 a 3 = s5 a 3) → (s7 a 7 = s5 a 7) → (s7 a 21 = s5 a 21) → (s7 a 22 = s5 a 22) → (s7 a 23 = s5 a 23) → (s7 a 24 = s5 a 24) → (s7 a 38 = s5 a 38) → (s7 a 51 = s5 a 51) → (s7 a 52 = s5 a 52) → (s5 a 4 ≤ s7 a 4) → JJ X E 6 G s7 0 0 [(0, .ref a), (2, .int (zI v124))] 46 [] := by
          intro m_c46_6
          induction m_c46_6 with
          | zero => intro v124 s7 hm_c46_6 fA8 hS_s7 hF_s7 fA11 fA12 fA13 fA14 fA15 fA16 fA17 fA18 fA19 fA20 fA21; exfalso; omega
          | succ m_c46_6 ih_c46_6 => 
            intro v124 s7 hm_c46_6 fA8 hS_s7 hF_s7 fA11 fA12 fA13 fA14 fA15 fA16 fA17 fA18 fA19 fA20 fA21
            refine j_aload_n hx 0 dX12_book_46 rfl ?_
            refine j_callV hx hG (c_X12_fine hst a) lk_RX12_166 ha (by decide) rfl rfl rfl rfl [] ⟨rfl, hG, hS_s7, ha⟩ rfl rfl ⟨by decide, by decide⟩ ⟨by decide, by decide⟩ (k2 := 0) (n2 := 0) rfl rfl (Nat.le_of_ble_eq_true rfl) dX12_book_47 (kIP (fun v134 q135 => ?_))
            refine j_if_eq hx 151 dX12_book_50 rfl (by omega) (fun h136 => ?_) (fun h136 => ?_)
            · skip
              refine j_aload_n hx 0 dX12_book_151 rfl ?_
              refine j_iload_n hx 1 dX12_book_152 rfl ?_
              have f137 := zf hS_s7 ha (k := 0) rfl
              have f138 := zf hS_s7 ha (k := 3) rfl
              have f139 := zf hS_s7 ha (k := 4) rfl
              have f140 := zf hS_s7 ha (k := 5) rfl
              have f141 := zf hS_s7 ha (k := 7) rfl
              have f142 := zf hS_s7 ha (k := 21) rfl
              have f143 := zf hS_s7 ha (k := 22) rfl
              have f144 := zf hS_s7 ha (k := 23) rfl
              have f145 := zf hS_s7 ha (k := 24) rfl
              have f146 := zf hS_s7 ha (k := 38) rfl
              have f147 := zf hS_s7 ha (k := 51) rfl
              have f148 := zf hS_s7 ha (k := 52) rfl
              refine j_callV hx hG (c_X12_result hst a v124) lk_RX12_265 ha (by decide) rfl rfl rfl rfl [.int (zI v124)] ⟨rfl, hG, hS_s7, ha, (by omega)⟩ rfl rfl ⟨by decide, by decide⟩ ⟨by decide, by decide⟩ (k2 := 0) (n2 := 0) rfl rfl (Nat.le_of_ble_eq_true rfl) dX12_book_153 (kIM (fun v149 s22 hS_s22 hF_s22 q150 => ?_))
              refine j_istore_n hx [(3, .int (zI v149)), (0, .ref a), (2, .int (zI v124))] dX12_book_156 (by decide) rfl ?_
              refine j_aload_n hx 1 dX12_book_157 rfl ?_
              have f151 := zf hS_s22 ha (k := 5) rfl
              refine g13_5 hx hG ha kf_RX12_137 rfl dX12_book_158 ?_
              refine j_iconst hx dX12_book_161 ?_
              refine j_icmp_eq hx 167 dX12_book_162 rfl (by omega) ⟨by decide, by decide⟩ (fun h152 => ?_) (fun h152 => ?_)
              · skip
                refine j_aload_n hx 1 dX12_book_167 rfl ?_
                refine j_iload_n hx 2 dX12_book_168 rfl ?_
                refine p13_41 hx hG ha kf_RX12_198 dX12_book_169 ?_
                obtain ⟨s23, e_s23⟩ : ∃ z, z = zU s22 a 41 v124 := ⟨_, rfl⟩
                rw [← e_s23]
                have hS_s23 : zSK G s23 := by rw [e_s23]; exact zSK_F hS_s22 ha rfl rfl rfl (by omega)
                refine j_iconst hx dX12_book_172 ?_
                refine j_istore hx [(4, .int (zI 0)), (3, .int (zI v149)), (0, .ref a), (2, .int (zI v124))] dX12_book_173 (by decide) rfl ?_
                have c175_24 : ∀ (m_c175_24 : Nat) (v153 : Int) (s25 : zS), 2147483648 - v153 < m_c175_24 → (0 ≤ v153 ∧ v153 ≤ 2147483647) → (zSK G s25) → (zFr [97] G s23 s25) → JJ X E 6 G s25 0 0 [(0, .ref a), (2, .int (zI v124)), (3, .int (zI v149)), (4, .int (zI v153))] 175 [] := by
                  intro m_c175_24
                  induction m_c175_24 with
                  | zero => intro v153 s25 hm_c175_24 fA26 hS_s25 hF_s25; exfalso; omega
                  | succ m_c175_24 ih_c175_24 => 
                    intro v153 s25 hm_c175_24 fA26 hS_s25 hF_s25
                    refine j_iload hx 3 dX12_book_175 rfl ?_
                    refine j_iconst hx dX12_book_177 ?_
                    refine j_iload_n hx 1 dX12_book_178 rfl ?_
                    refine j_imul hx (r := 2 * v124) dX12_book_179 rfl ?_
                    refine j_icmp_ge hx 203 dX12_book_180 rfl (by omega) (by omega) (fun h154 => ?_) (fun h154 => ?_)
                    · skip
                      refine j_iload_n hx 2 dX12_book_203 rfl ?_
                      have g155 : s25 a 21 = s22 a 21 := (by rw [(zFr_g hF_s25 ha (by decide)), e_s23, zU_at (Or.inr (by decide))])
                      have f156 := zf hS_s22 ha (k := 21) rfl
                      have g157 : s25 a 22 = s22 a 22 := (by rw [(zFr_g hF_s25 ha (by decide)), e_s23, zU_at (Or.inr (by decide))])
                      have f158 := zf hS_s22 ha (k := 22) rfl
                      have g159 : s25 a 23 = s22 a 23 := (by rw [(zFr_g hF_s25 ha (by decide)), e_s23, zU_at (Or.inr (by decide))])
                      have f160 := zf hS_s22 ha (k := 23) rfl
                      have g161 : s25 a 24 = s22 a 24 := (by rw [(zFr_g hF_s25 ha (by decide)), e_s23, zU_at (Or.inr (by decide))])
                      have f162 := zf hS_s22 ha (k := 24) rfl
                      have g163 : s25 a 38 = s22 a 38 := (by rw [(zFr_g hF_s25 ha (by decide)), e_s23, zU_at (Or.inr (by decide))])
                      have f164 := zf hS_s22 ha (k := 38) rfl
                      have g165 : s25 a 51 = s22 a 51 := (by rw [(zFr_g hF_s25 ha (by decide)), e_s23, zU_at (Or.inr (by decide))])
                      have f166 := zf hS_s22 ha (k := 51) rfl
                      have g167 : s25 a 52 = s22 a 52 := (by rw [(zFr_g hF_s25 ha (by decide)), e_s23, zU_at (Or.inr (by decide))])
                      have f168 := zf hS_s22 ha (k := 52) rfl
                      exact j_iret hx hq rfl (by decide) (by decide) dX12_book_204 ⟨v149, rfl, rfl, hS_s25, (zFr_t (zFr_u (zFr_t (zFr_t (zFr_t (zFr_u zFr_rf e_s1 ha (by decide)) hF_s5 (by decide)) hF_s7 (by decide)) hF_s22 (by decide)) e_s23 ha (by decide)) hF_s25 (by decide)), ⟨(by omega), by omega, by omega, by omega, by omega, by omega, by omega, by omega⟩⟩
                    · skip
                      refine j_aload_n hx 0 dX12_book_183 rfl ?_
                      refine g13_40 hx hG ha kf_RX12_92 dX12_book_184 ?_
                      refine j_iload hx 3 dX12_book_187 rfl ?_
                      refine j_aload_n hx 0 dX12_book_189 rfl ?_
                      refine g13_39 hx hG ha kf_RX12_89 dX12_book_190 ?_
                      refine j_iload hx 3 dX12_book_193 rfl ?_
                      have f169 := zaI (j := (v153).toNat) hS_s7 (zr (k := 39) (t2 := 96) hG ha rfl) rfl (zlen hG (zr (k := 39) (t2 := 96) hG ha rfl) (n := 24) rfl rfl) (show 0 ≤ v153 by omega) (by omega) rfl
                      refine j_iald hx hG (zr (k := 39) (t2 := 96) hG ha rfl) (by decide) rfl (zlen hG (zr (k := 39) (t2 := 96) hG ha rfl) (n := 24) rfl rfl) (by omega) (by omega) (j := (v153).toNat) rfl (v := (s7 (gP G a 39) (v153).toNat)) (by rw [(zFr_g hF_s25 (zr (k := 39) (t2 := 96) hG ha rfl) (by decide)), e_s23, zU_at (Or.inl (zne ha (zr (k := 39) (t2 := 96) hG ha rfl) (by decide))), (zFr_g hF_s22 (zr (k := 39) (t2 := 96) hG ha rfl) (by decide))]) dX12_book_195 ?_
                      refine j_iast hx hG (zr (k := 40) (t2 := 97) hG ha rfl) (by decide) rfl (zlen hG (zr (k := 40) (t2 := 97) hG ha rfl) (n := 24) rfl rfl) (by omega) (by omega) (j := (v153).toNat) rfl dX12_book_196 ?_
                      obtain ⟨s29, e_s29⟩ : ∃ z, z = zU s25 (gP G a 40) (v153).toNat ((s7 (gP G a 39) (v153).toNat)) := ⟨_, rfl⟩
                      rw [← e_s29]
                      have hS_s29 : zSK G s29 := by rw [e_s29]; exact zSK_A hS_s25 (zr (k := 40) (t2 := 97) hG ha rfl) rfl rfl rfl (by omega)
                      refine j_iinc hx 3 [(4, .int (zI (v153 + 1))), (0, .ref a), (2, .int (zI v124)), (3, .int (zI v149))] dX12_book_197 rfl (by omega) (by decide) rfl ?_
                      refine j_goto hx 175 dX12_book_200 rfl ?_
                      exact j_sub [1, 2, 3, 0] [(0, .ref a), (2, .int (zI v124)), (3, .int (zI v149)), (4, .int (zI (v153 + 1)))] rfl (ih_c175_24 (v153 + 1) s29 (by omega) (by omega) hS_s29 (zFr_u (zFr_t zFr_rf hF_s25 (by decide)) e_s29 (zr (k := 40) (t2 := 97) hG ha rfl) (by decide)))
                exact j_sub [2, 3, 1, 0] [(0, .ref a), (2, .int (zI v124)), (3, .int (zI v149)), (4, .int (zI 0))] rfl (c175_24 (2147483648 * 4) 0 s23 (by omega) (by omega) hS_s23 zFr_rf)
              · skip
                refine j_iload_n hx 0 dX12_book_165 rfl ?_
                have f170 := zf hS_s22 ha (k := 21) rfl
                have f171 := zf hS_s22 ha (k := 22) rfl
                have f172 := zf hS_s22 ha (k := 23) rfl
                have f173 := zf hS_s22 ha (k := 24) rfl
                have f174 := zf hS_s22 ha (k := 38) rfl
                have f175 := zf hS_s22 ha (k := 51) rfl
                have f176 := zf hS_s22 ha (k := 52) rfl
                exact j_iret hx hq rfl (by decide) (by decide) dX12_book_166 ⟨v149, rfl, rfl, hS_s22, (zFr_t (zFr_t (zFr_t (zFr_u zFr_rf e_s1 ha (by decide)) hF_s5 (by decide)) hF_s7 (by decide)) hF_s22 (by decide)), ⟨(by omega), by omega, by omega, by omega, by omega, by omega, by omega, by omega⟩⟩
            · skip
              refine j_aload_n hx 0 dX12_book_53 rfl ?_
              have f177 := zf hS_s7 ha (k := 4) rfl
              have f178 := zf hS_s7 ha (k := 3) rfl
              have f179 := zf hS_s7 ha (k := 0) rfl
              have f180 := zf hS_s7 ha (k := 5) rfl
              have f181 := zf hS_s7 ha (k := 7) rfl
              have f182 := zf hS_s7 ha (k := 21) rfl
              have f183 := zf hS_s7 ha (k := 22) rfl
              have f184 := zf hS_s7 ha (k := 23) rfl
              have f185 := zf hS_s7 ha (k := 24) rfl
              have f186 := zf hS_s7 ha (k := 38) rfl
              have f187 := zf hS_s7 ha (k := 51) rfl
              have f188 := zf hS_s7 ha (k := 52) rfl
              refine j_callV hx hG (c_X12_isMore hst a) lk_RX12_247 ha (by decide) rfl rfl rfl rfl [] ⟨rfl, hG, hS_s7, ha⟩ rfl rfl ⟨by decide, by decide⟩ ⟨by decide, by decide⟩ (k2 := 0) (n2 := 0) rfl rfl (Nat.le_of_ble_eq_true rfl) dX12_book_54 (kIM (fun v189 s30 hS_s30 hF_s30 q190 => ?_))
              refine j_if_eq hx 151 dX12_book_57 rfl (by omega) (fun h191 => ?_) (fun h191 => ?_)
              · skip
                refine j_aload_n hx 0 dX12_book_151 rfl ?_
                refine j_iload_n hx 1 dX12_book_152 rfl ?_
                have f192 := zf hS_s30 ha (k := 0) rfl
                have f193 := zf hS_s30 ha (k := 3) rfl
                have f194 := zf hS_s30 ha (k := 4) rfl
                have f195 := zf hS_s30 ha (k := 5) rfl
                have f196 := zf hS_s30 ha (k := 7) rfl
                have f197 := zf hS_s30 ha (k := 21) rfl
                have f198 := zf hS_s30 ha (k := 22) rfl
                have f199 := zf hS_s30 ha (k := 23) rfl
                have f200 := zf hS_s30 ha (k := 24) rfl
                have f201 := zf hS_s30 ha (k := 38) rfl
                have f202 := zf hS_s30 ha (k := 51) rfl
                have f203 := zf hS_s30 ha (k := 52) rfl
                refine j_callV hx hG (c_X12_result hst a v124) lk_RX12_265 ha (by decide) rfl rfl rfl rfl [.int (zI v124)] ⟨rfl, hG, hS_s30, ha, (by omega)⟩ rfl rfl ⟨by decide, by decide⟩ ⟨by decide, by decide⟩ (k2 := 0) (n2 := 0) rfl rfl (Nat.le_of_ble_eq_true rfl) dX12_book_153 (kIM (fun v204 s31 hS_s31 hF_s31 q205 => ?_))
                refine j_istore_n hx [(3, .int (zI v204)), (0, .ref a), (2, .int (zI v124))] dX12_book_156 (by decide) rfl ?_
                refine j_aload_n hx 1 dX12_book_157 rfl ?_
                have f206 := zf hS_s31 ha (k := 5) rfl
                refine g13_5 hx hG ha kf_RX12_137 rfl dX12_book_158 ?_
                refine j_iconst hx dX12_book_161 ?_
                refine j_icmp_eq hx 167 dX12_book_162 rfl (by omega) ⟨by decide, by decide⟩ (fun h207 => ?_) (fun h207 => ?_)
                · skip
                  refine j_aload_n hx 1 dX12_book_167 rfl ?_
                  refine j_iload_n hx 2 dX12_book_168 rfl ?_
                  refine p13_41 hx hG ha kf_RX12_198 dX12_book_169 ?_
                  obtain ⟨s32, e_s32⟩ : ∃ z, z = zU s31 a 41 v124 := ⟨_, rfl⟩
                  rw [← e_s32]
                  have hS_s32 : zSK G s32 := by rw [e_s32]; exact zSK_F hS_s31 ha rfl rfl rfl (by omega)
                  refine j_iconst hx dX12_book_172 ?_
                  refine j_istore hx [(4, .int (zI 0)), (3, .int (zI v204)), (0, .ref a), (2, .int (zI v124))] dX12_book_173 (by decide) rfl ?_
                  have c175_33 : ∀ (m_c175_33 : Nat) (v208 : Int) (s34 : zS), 2147483648 - v208 < m_c175_33 → (0 ≤ v208 ∧ v208 ≤ 2147483647) → (zSK G s34) → (zFr [97] G s32 s34) → JJ X E 6 G s34 0 0 [(0, .ref a), (2, .int (zI v124)), (3, .int (zI v204)), (4, .int (zI v208))] 175 [] := by
                    intro m_c175_33
                    induction m_c175_33 with
                    | zero => intro v208 s34 hm_c175_33 fA35 hS_s34 hF_s34; exfalso; omega
                    | succ m_c175_33 ih_c175_33 => 
                      intro v208 s34 hm_c175_33 fA35 hS_s34 hF_s34
                      refine j_iload hx 3 dX12_book_175 rfl ?_
                      refine j_iconst hx dX12_book_177 ?_
                      refine j_iload_n hx 1 dX12_book_178 rfl ?_
                      refine j_imul hx (r := 2 * v124) dX12_book_179 rfl ?_
                      refine j_icmp_ge hx 203 dX12_book_180 rfl (by omega) (by omega) (fun h209 => ?_) (fun h209 => ?_)
                      · skip
                        refine j_iload_n hx 2 dX12_book_203 rfl ?_
                        have g210 : s34 a 21 = s31 a 21 := (by rw [(zFr_g hF_s34 ha (by decide)), e_s32, zU_at (Or.inr (by decide))])
                        have f211 := zf hS_s31 ha (k := 21) rfl
                        have g212 : s34 a 22 = s31 a 22 := (by rw [(zFr_g hF_s34 ha (by decide)), e_s32, zU_at (Or.inr (by decide))])
                        have f213 := zf hS_s31 ha (k := 22) rfl
                        have g214 : s34 a 23 = s31 a 23 := (by rw [(zFr_g hF_s34 ha (by decide)), e_s32, zU_at (Or.inr (by decide))])
                        have f215 := zf hS_s31 ha (k := 23) rfl
                        have g216 : s34 a 24 = s31 a 24 := (by rw [(zFr_g hF_s34 ha (by decide)), e_s32, zU_at (Or.inr (by decide))])
                        have f217 := zf hS_s31 ha (k := 24) rfl
                        have g218 : s34 a 38 = s31 a 38 := (by rw [(zFr_g hF_s34 ha (by decide)), e_s32, zU_at (Or.inr (by decide))])
                        have f219 := zf hS_s31 ha (k := 38) rfl
                        have g220 : s34 a 51 = s31 a 51 := (by rw [(zFr_g hF_s34 ha (by decide)), e_s32, zU_at (Or.inr (by decide))])
                        have f221 := zf hS_s31 ha (k := 51) rfl
                        have g222 : s34 a 52 = s31 a 52 := (by rw [(zFr_g hF_s34 ha (by decide)), e_s32, zU_at (Or.inr (by decide))])
                        have f223 := zf hS_s31 ha (k := 52) rfl
                        exact j_iret hx hq rfl (by decide) (by decide) dX12_book_204 ⟨v204, rfl, rfl, hS_s34, (zFr_t (zFr_u (zFr_t (zFr_t (zFr_t (zFr_t (zFr_u zFr_rf e_s1 ha (by decide)) hF_s5 (by decide)) hF_s7 (by decide)) hF_s30 (by decide)) hF_s31 (by decide)) e_s32 ha (by decide)) hF_s34 (by decide)), ⟨(by omega), by omega, by omega, by omega, by omega, by omega, by omega, by omega⟩⟩
                      · skip
                        refine j_aload_n hx 0 dX12_book_183 rfl ?_
                        refine g13_40 hx hG ha kf_RX12_92 dX12_book_184 ?_
                        refine j_iload hx 3 dX12_book_187 rfl ?_
                        refine j_aload_n hx 0 dX12_book_189 rfl ?_
                        refine g13_39 hx hG ha kf_RX12_89 dX12_book_190 ?_
                        refine j_iload hx 3 dX12_book_193 rfl ?_
                        have f224 := zaI (j := (v208).toNat) hS_s7 (zr (k := 39) (t2 := 96) hG ha rfl) rfl (zlen hG (zr (k := 39) (t2 := 96) hG ha rfl) (n := 24) rfl rfl) (show 0 ≤ v208 by omega) (by omega) rfl
                        refine j_iald hx hG (zr (k := 39) (t2 := 96) hG ha rfl) (by decide) rfl (zlen hG (zr (k := 39) (t2 := 96) hG ha rfl) (n := 24) rfl rfl) (by omega) (by omega) (j := (v208).toNat) rfl (v := (s7 (gP G a 39) (v208).toNat)) (by rw [(zFr_g hF_s34 (zr (k := 39) (t2 := 96) hG ha rfl) (by decide)), e_s32, zU_at (Or.inl (zne ha (zr (k := 39) (t2 := 96) hG ha rfl) (by decide))), (zFr_g hF_s31 (zr (k := 39) (t2 := 96) hG ha rfl) (by decide)), (zFr_g hF_s30 (zr (k := 39) (t2 := 96) hG ha rfl) (by decide))]) dX12_book_195 ?_
                        refine j_iast hx hG (zr (k := 40) (t2 := 97) hG ha rfl) (by decide) rfl (zlen hG (zr (k := 40) (t2 := 97) hG ha rfl) (n := 24) rfl rfl) (by omega) (by omega) (j := (v208).toNat) rfl dX12_book_196 ?_
                        obtain ⟨s38, e_s38⟩ : ∃ z, z = zU s34 (gP G a 40) (v208).toNat ((s7 (gP G a 39) (v208).toNat)) := ⟨_, rfl⟩
                        rw [← e_s38]
                        have hS_s38 : zSK G s38 := by rw [e_s38]; exact zSK_A hS_s34 (zr (k := 40) (t2 := 97) hG ha rfl) rfl rfl rfl (by omega)
                        refine j_iinc hx 3 [(4, .int (zI (v208 + 1))), (0, .ref a), (2, .int (zI v124)), (3, .int (zI v204))] dX12_book_197 rfl (by omega) (by decide) rfl ?_
                        refine j_goto hx 175 dX12_book_200 rfl ?_
                        exact j_sub [1, 2, 3, 0] [(0, .ref a), (2, .int (zI v124)), (3, .int (zI v204)), (4, .int (zI (v208 + 1)))] rfl (ih_c175_33 (v208 + 1) s38 (by omega) (by omega) hS_s38 (zFr_u (zFr_t zFr_rf hF_s34 (by decide)) e_s38 (zr (k := 40) (t2 := 97) hG ha rfl) (by decide)))
                  exact j_sub [2, 3, 1, 0] [(0, .ref a), (2, .int (zI v124)), (3, .int (zI v204)), (4, .int (zI 0))] rfl (c175_33 (2147483648 * 4) 0 s32 (by omega) (by omega) hS_s32 zFr_rf)
                · skip
                  refine j_iload_n hx 0 dX12_book_165 rfl ?_
                  have f225 := zf hS_s31 ha (k := 21) rfl
                  have f226 := zf hS_s31 ha (k := 22) rfl
                  have f227 := zf hS_s31 ha (k := 23) rfl
                  have f228 := zf hS_s31 ha (k := 24) rfl
                  have f229 := zf hS_s31 ha (k := 38) rfl
                  have f230 := zf hS_s31 ha (k := 51) rfl
                  have f231 := zf hS_s31 ha (k := 52) rfl
                  exact j_iret hx hq rfl (by decide) (by decide) dX12_book_166 ⟨v204, rfl, rfl, hS_s31, (zFr_t (zFr_t (zFr_t (zFr_t (zFr_u zFr_rf e_s1 ha (by decide)) hF_s5 (by decide)) hF_s7 (by decide)) hF_s30 (by decide)) hF_s31 (by decide)), ⟨(by omega), by omega, by omega, by omega, by omega, by omega, by omega, by omega⟩⟩
              · skip
                refine j_aload_n hx 0 dX12_book_60 rfl ?_
                have f232 := zf hS_s30 ha (k := 4) rfl
                refine g13_4 hx hG ha kf_RX12_143 rfl dX12_book_61 ?_
                refine j_istore_n hx [(3, .int (zI ((s30 a 4)))), (0, .ref a), (2, .int (zI v124))] dX12_book_64 (by decide) rfl ?_
                refine j_aload_n hx 1 dX12_book_65 rfl ?_
                refine j_iconst hx dX12_book_66 ?_
                refine j_sipush hx dX12_book_67 rfl ?_
                have f233 := zf hS_s30 ha (k := 5) rfl
                have f234 := zf hS_s30 ha (k := 3) rfl
                have f235 := zf hS_s30 ha (k := 0) rfl
                have f236 := zf hS_s30 ha (k := 7) rfl
                have f237 := zf hS_s30 ha (k := 21) rfl
                have f238 := zf hS_s30 ha (k := 22) rfl
                have f239 := zf hS_s30 ha (k := 23) rfl
                have f240 := zf hS_s30 ha (k := 24) rfl
                have f241 := zf hS_s30 ha (k := 38) rfl
                have f242 := zf hS_s30 ha (k := 51) rfl
                have f243 := zf hS_s30 ha (k := 52) rfl
                refine j_callV hx hG (c_X12_readNumber hst a 0 9999) lk_RX12_219 ha (by decide) rfl rfl rfl rfl [.int (zI 0), .int (zI 9999)] ⟨rfl, hG, hS_s30, ha, (by omega), (by omega)⟩ rfl rfl ⟨by decide, by decide⟩ ⟨by decide, by decide⟩ (k2 := 0) (n2 := 0) rfl rfl (Nat.le_of_ble_eq_true rfl) dX12_book_70 (kIM (fun v244 s39 hS_s39 hF_s39 q245 => ?_))
                refine j_istore hx [(4, .int (zI v244)), (3, .int (zI ((s30 a 4)))), (0, .ref a), (2, .int (zI v124))] dX12_book_73 (by decide) rfl ?_
                refine j_aload_n hx 2 dX12_book_75 rfl ?_
                refine j_callV hx hG (c_X12_fine hst a) lk_RX12_166 ha (by decide) rfl rfl rfl rfl [] ⟨rfl, hG, hS_s39, ha⟩ rfl rfl ⟨by decide, by decide⟩ ⟨by decide, by decide⟩ (k2 := 0) (n2 := 0) rfl rfl (Nat.le_of_ble_eq_true rfl) dX12_book_76 (kIP (fun v246 q247 => ?_))
                refine j_if_eq hx 94 dX12_book_79 rfl (by omega) (fun h248 => ?_) (fun h248 => ?_)
                · skip
                  refine j_aload_n hx 2 dX12_book_94 rfl ?_
                  refine j_iconst hx dX12_book_95 ?_
                  refine j_aload_n hx 2 dX12_book_96 rfl ?_
                  have f249 := zf hS_s39 ha (k := 24) rfl
                  refine g13_24 hx hG ha kf_RX12_189 rfl dX12_book_97 ?_
                  refine j_iconst hx dX12_book_100 ?_
                  refine j_isub hx (r := (s39 a 24) - 1) dX12_book_101 (by omega) ?_
                  have f250 := zf hS_s39 ha (k := 4) rfl
                  have f251 := zf hS_s39 ha (k := 5) rfl
                  have f252 := zf hS_s39 ha (k := 3) rfl
                  have f253 := zf hS_s39 ha (k := 0) rfl
                  have f254 := zf hS_s39 ha (k := 7) rfl
                  have f255 := zf hS_s39 ha (k := 21) rfl
                  have f256 := zf hS_s39 ha (k := 22) rfl
                  have f257 := zf hS_s39 ha (k := 23) rfl
                  have f258 := zf hS_s39 ha (k := 38) rfl
                  have f259 := zf hS_s39 ha (k := 51) rfl
                  have f260 := zf hS_s39 ha (k := 52) rfl
                  refine j_callV hx hG (c_X12_readNumber hst a 0 ((s39 a 24) - 1)) lk_RX12_219 ha (by decide) rfl rfl rfl rfl [.int (zI 0), .int (zI ((s39 a 24) - 1))] ⟨rfl, hG, hS_s39, ha, (by omega), (by omega)⟩ rfl rfl ⟨by decide, by decide⟩ ⟨by decide, by decide⟩ (k2 := 0) (n2 := 0) rfl rfl (Nat.le_of_ble_eq_true rfl) dX12_book_102 (kIM (fun v261 s40 hS_s40 hF_s40 q262 => ?_))
                  refine j_istore hx [(5, .int (zI v261)), (4, .int (zI v244)), (3, .int (zI ((s30 a 4)))), (0, .ref a), (2, .int (zI v124))] dX12_book_105 (by decide) rfl ?_
                  refine j_aload_n hx 3 dX12_book_107 rfl ?_
                  refine j_bipush hx dX12_book_108 rfl ?_
                  have f263 := zf hS_s40 ha (k := 4) rfl
                  have f264 := zf hS_s40 ha (k := 5) rfl
                  have f265 := zf hS_s40 ha (k := 3) rfl
                  have f266 := zf hS_s40 ha (k := 0) rfl
                  have f267 := zf hS_s40 ha (k := 7) rfl
                  have f268 := zf hS_s40 ha (k := 21) rfl
                  have f269 := zf hS_s40 ha (k := 22) rfl
                  have f270 := zf hS_s40 ha (k := 23) rfl
                  have f271 := zf hS_s40 ha (k := 24) rfl
                  have f272 := zf hS_s40 ha (k := 38) rfl
                  have f273 := zf hS_s40 ha (k := 51) rfl
                  have f274 := zf hS_s40 ha (k := 52) rfl
                  refine j_callV hx hG (c_X12_sign hst a 59) lk_RX12_262 ha (by decide) rfl rfl rfl rfl [.int (zI 59)] ⟨rfl, hG, hS_s40, ha, (by omega)⟩ rfl rfl ⟨by decide, by decide⟩ ⟨by decide, by decide⟩ (k2 := 0) (n2 := 0) rfl rfl (Nat.le_of_ble_eq_true rfl) dX12_book_110 (kVM (fun s41 hS_s41 hF_s41 q276 => ?_))
                  refine j_aload_n hx 3 dX12_book_113 rfl ?_
                  refine j_callV hx hG (c_X12_fine hst a) lk_RX12_166 ha (by decide) rfl rfl rfl rfl [] ⟨rfl, hG, hS_s41, ha⟩ rfl rfl ⟨by decide, by decide⟩ ⟨by decide, by decide⟩ (k2 := 0) (n2 := 0) rfl rfl (Nat.le_of_ble_eq_true rfl) dX12_book_114 (kIP (fun v277 q278 => ?_))
                  refine j_if_ne hx 123 dX12_book_117 rfl (by omega) (fun h279 => ?_) (fun h279 => ?_)
                  · skip
                    refine j_aload_n hx 3 dX12_book_123 rfl ?_
                    refine g13_39 hx hG ha kf_RX12_89 dX12_book_124 ?_
                    refine j_iconst hx dX12_book_127 ?_
                    refine j_iload_n hx 4 dX12_book_128 rfl ?_
                    refine j_imul hx (r := 2 * v124) dX12_book_129 rfl ?_
                    refine j_iload hx 1 dX12_book_130 rfl ?_
                    refine j_iast hx hG (zr (k := 39) (t2 := 96) hG ha rfl) (by decide) rfl (zlen hG (zr (k := 39) (t2 := 96) hG ha rfl) (n := 24) rfl rfl) (by omega) (by omega) (j := (2 * v124).toNat) rfl dX12_book_132 ?_
                    obtain ⟨s42, e_s42⟩ : ∃ z, z = zU s41 (gP G a 39) (2 * v124).toNat v244 := ⟨_, rfl⟩
                    rw [← e_s42]
                    have hS_s42 : zSK G s42 := by rw [e_s42]; exact zSK_A hS_s41 (zr (k := 39) (t2 := 96) hG ha rfl) rfl rfl rfl (by omega)
                    refine j_aload_n hx 3 dX12_book_133 rfl ?_
                    refine g13_39 hx hG ha kf_RX12_89 dX12_book_134 ?_
                    refine j_iconst hx dX12_book_137 ?_
                    refine j_iload_n hx 4 dX12_book_138 rfl ?_
                    refine j_imul hx (r := 2 * v124) dX12_book_139 rfl ?_
                    refine j_iconst hx dX12_book_140 ?_
                    refine j_iadd hx (r := 2 * v124 + 1) dX12_book_141 (by omega) ?_
                    refine j_iload hx 0 dX12_book_142 rfl ?_
                    refine j_iast hx hG (zr (k := 39) (t2 := 96) hG ha rfl) (by decide) rfl (zlen hG (zr (k := 39) (t2 := 96) hG ha rfl) (n := 24) rfl rfl) (by omega) (by omega) (j := (2 * v124 + 1).toNat) rfl dX12_book_144 ?_
                    obtain ⟨s43, e_s43⟩ : ∃ z, z = zU s42 (gP G a 39) (2 * v124 + 1).toNat v261 := ⟨_, rfl⟩
                    rw [← e_s43]
                    have hS_s43 : zSK G s43 := by rw [e_s43]; exact zSK_A hS_s42 (zr (k := 39) (t2 := 96) hG ha rfl) rfl rfl rfl (by omega)
                    refine j_iinc hx 4 [(2, .int (zI (v124 + 1))), (5, .int (zI v261)), (4, .int (zI v244)), (3, .int (zI ((s30 a 4)))), (0, .ref a)] dX12_book_145 rfl (by omega) (by decide) rfl ?_
                    refine j_goto hx 46 dX12_book_148 rfl ?_
                    have g280 : s43 a 4 = s41 a 4 := (by rw [e_s43, zU_at (Or.inl (zne (zr (k := 39) (t2 := 96) hG ha rfl) ha (by decide))), e_s42, zU_at (Or.inl (zne (zr (k := 39) (t2 := 96) hG ha rfl) ha (by decide)))])
                    have f281 := zf hS_s41 ha (k := 4) rfl
                    have g282 : s43 a 5 = s41 a 5 := (by rw [e_s43, zU_at (Or.inl (zne (zr (k := 39) (t2 := 96) hG ha rfl) ha (by decide))), e_s42, zU_at (Or.inl (zne (zr (k := 39) (t2 := 96) hG ha rfl) ha (by decide)))])
                    have f283 := zf hS_s41 ha (k := 5) rfl
                    have g284 : s43 a 0 = s41 a 0 := (by rw [e_s43, zU_at (Or.inl (zne (zr (k := 39) (t2 := 96) hG ha rfl) ha (by decide))), e_s42, zU_at (Or.inl (zne (zr (k := 39) (t2 := 96) hG ha rfl) ha (by decide)))])
                    have f285 := zf hS_s41 ha (k := 0) rfl
                    have g286 : s43 a 3 = s41 a 3 := (by rw [e_s43, zU_at (Or.inl (zne (zr (k := 39) (t2 := 96) hG ha rfl) ha (by decide))), e_s42, zU_at (Or.inl (zne (zr (k := 39) (t2 := 96) hG ha rfl) ha (by decide)))])
                    have f287 := zf hS_s41 ha (k := 3) rfl
                    have g288 : s43 a 7 = s41 a 7 := (by rw [e_s43, zU_at (Or.inl (zne (zr (k := 39) (t2 := 96) hG ha rfl) ha (by decide))), e_s42, zU_at (Or.inl (zne (zr (k := 39) (t2 := 96) hG ha rfl) ha (by decide)))])
                    have f289 := zf hS_s41 ha (k := 7) rfl
                    have g290 : s43 a 21 = s41 a 21 := (by rw [e_s43, zU_at (Or.inl (zne (zr (k := 39) (t2 := 96) hG ha rfl) ha (by decide))), e_s42, zU_at (Or.inl (zne (zr (k := 39) (t2 := 96) hG ha rfl) ha (by decide)))])
                    have f291 := zf hS_s41 ha (k := 21) rfl
                    have g292 : s43 a 22 = s41 a 22 := (by rw [e_s43, zU_at (Or.inl (zne (zr (k := 39) (t2 := 96) hG ha rfl) ha (by decide))), e_s42, zU_at (Or.inl (zne (zr (k := 39) (t2 := 96) hG ha rfl) ha (by decide)))])
                    have f293 := zf hS_s41 ha (k := 22) rfl
                    have g294 : s43 a 23 = s41 a 23 := (by rw [e_s43, zU_at (Or.inl (zne (zr (k := 39) (t2 := 96) hG ha rfl) ha (by decide))), e_s42, zU_at (Or.inl (zne (zr (k := 39) (t2 := 96) hG ha rfl) ha (by decide)))])
                    have f295 := zf hS_s41 ha (k := 23) rfl
                    have g296 : s43 a 24 = s41 a 24 := (by rw [e_s43, zU_at (Or.inl (zne (zr (k := 39) (t2 := 96) hG ha rfl) ha (by decide))), e_s42, zU_at (Or.inl (zne (zr (k := 39) (t2 := 96) hG ha rfl) ha (by decide)))])
                    have f297 := zf hS_s41 ha (k := 24) rfl
                    have g298 : s43 a 38 = s41 a 38 := (by rw [e_s43, zU_at (Or.inl (zne (zr (k := 39) (t2 := 96) hG ha rfl) ha (by decide))), e_s42, zU_at (Or.inl (zne (zr (k := 39) (t2 := 96) hG ha rfl) ha (by decide)))])
                    have f299 := zf hS_s41 ha (k := 38) rfl
                    have g300 : s43 a 51 = s41 a 51 := (by rw [e_s43, zU_at (Or.inl (zne (zr (k := 39) (t2 := 96) hG ha rfl) ha (by decide))), e_s42, zU_at (Or.inl (zne (zr (k := 39) (t2 := 96) hG ha rfl) ha (by decide)))])
                    have f301 := zf hS_s41 ha (k := 51) rfl
                    have g302 : s43 a 52 = s41 a 52 := (by rw [e_s43, zU_at (Or.inl (zne (zr (k := 39) (t2 := 96) hG ha rfl) ha (by decide))), e_s42, zU_at (Or.inl (zne (zr (k := 39) (t2 := 96) hG ha rfl) ha (by decide)))])
                    have f303 := zf hS_s41 ha (k := 52) rfl
                    exact j_sub [4, 0] [(0, .ref a), (2, .int (zI (v124 + 1)))] rfl (ih_c46_6 (v124 + 1) s43 (by omega) (by omega) hS_s43 (zFr_u (zFr_u (zFr_t (zFr_t (zFr_t (zFr_t (zFr_t zFr_rf hF_s7 (by decide)) hF_s30 (by decide)) hF_s39 (by decide)) hF_s40 (by decide)) hF_s41 (by decide)) e_s42 (zr (k := 39) (t2 := 96) hG ha rfl) (by decide)) e_s43 (zr (k := 39) (t2 := 96) hG ha rfl) (by decide)) (by omega) (by omega) (by omega) (by omega) (by omega) (by omega) (by omega) (by omega) (by omega) (by omega) (by omega))
                  · skip
                    refine j_goto hx 151 dX12_book_120 rfl ?_
                    refine j_aload_n hx 3 dX12_book_151 rfl ?_
                    refine j_iload_n hx 4 dX12_book_152 rfl ?_
                    have f304 := zf hS_s41 ha (k := 0) rfl
                    have f305 := zf hS_s41 ha (k := 3) rfl
                    have f306 := zf hS_s41 ha (k := 4) rfl
                    have f307 := zf hS_s41 ha (k := 5) rfl
                    have f308 := zf hS_s41 ha (k := 7) rfl
                    have f309 := zf hS_s41 ha (k := 21) rfl
                    have f310 := zf hS_s41 ha (k := 22) rfl
                    have f311 := zf hS_s41 ha (k := 23) rfl
                    have f312 := zf hS_s41 ha (k := 24) rfl
                    have f313 := zf hS_s41 ha (k := 38) rfl
                    have f314 := zf hS_s41 ha (k := 51) rfl
                    have f315 := zf hS_s41 ha (k := 52) rfl
                    refine j_callV hx hG (c_X12_result hst a v124) lk_RX12_265 ha (by decide) rfl rfl rfl rfl [.int (zI v124)] ⟨rfl, hG, hS_s41, ha, (by omega)⟩ rfl rfl ⟨by decide, by decide⟩ ⟨by decide, by decide⟩ (k2 := 0) (n2 := 0) rfl rfl (Nat.le_of_ble_eq_true rfl) dX12_book_153 (kIM (fun v316 s44 hS_s44 hF_s44 q317 => ?_))
                    refine j_istore_n hx [(3, .int (zI v316)), (5, .int (zI v261)), (4, .int (zI v244)), (0, .ref a), (2, .int (zI v124))] dX12_book_156 (by decide) rfl ?_
                    refine j_aload_n hx 3 dX12_book_157 rfl ?_
                    have f318 := zf hS_s44 ha (k := 5) rfl
                    refine g13_5 hx hG ha kf_RX12_137 rfl dX12_book_158 ?_
                    refine j_iconst hx dX12_book_161 ?_
                    refine j_icmp_eq hx 167 dX12_book_162 rfl (by omega) ⟨by decide, by decide⟩ (fun h319 => ?_) (fun h319 => ?_)
                    · skip
                      refine j_aload_n hx 3 dX12_book_167 rfl ?_
                      refine j_iload_n hx 4 dX12_book_168 rfl ?_
                      refine p13_41 hx hG ha kf_RX12_198 dX12_book_169 ?_
                      obtain ⟨s45, e_s45⟩ : ∃ z, z = zU s44 a 41 v124 := ⟨_, rfl⟩
                      rw [← e_s45]
                      have hS_s45 : zSK G s45 := by rw [e_s45]; exact zSK_F hS_s44 ha rfl rfl rfl (by omega)
                      refine j_iconst hx dX12_book_172 ?_
                      refine j_istore hx [(4, .int (zI 0)), (3, .int (zI v316)), (5, .int (zI v261)), (0, .ref a), (2, .int (zI v124))] dX12_book_173 (by decide) rfl ?_
                      have c175_46 : ∀ (m_c175_46 : Nat) (v320 : Int) (s47 : zS), 2147483648 - v320 < m_c175_46 → (0 ≤ v320 ∧ v320 ≤ 2147483647) → (zSK G s47) → (zFr [97] G s45 s47) → JJ X E 6 G s47 0 0 [(0, .ref a), (2, .int (zI v124)), (3, .int (zI v316)), (4, .int (zI v320))] 175 [] := by
                        intro m_c175_46
                        induction m_c175_46 with
                        | zero => intro v320 s47 hm_c175_46 fA48 hS_s47 hF_s47; exfalso; omega
                        | succ m_c175_46 ih_c175_46 => 
                          intro v320 s47 hm_c175_46 fA48 hS_s47 hF_s47
                          refine j_iload hx 3 dX12_book_175 rfl ?_
                          refine j_iconst hx dX12_book_177 ?_
                          refine j_iload_n hx 1 dX12_book_178 rfl ?_
                          refine j_imul hx (r := 2 * v124) dX12_book_179 rfl ?_
                          refine j_icmp_ge hx 203 dX12_book_180 rfl (by omega) (by omega) (fun h321 => ?_) (fun h321 => ?_)
                          · skip
                            refine j_iload_n hx 2 dX12_book_203 rfl ?_
                            have g322 : s47 a 21 = s44 a 21 := (by rw [(zFr_g hF_s47 ha (by decide)), e_s45, zU_at (Or.inr (by decide))])
                            have f323 := zf hS_s44 ha (k := 21) rfl
                            have g324 : s47 a 22 = s44 a 22 := (by rw [(zFr_g hF_s47 ha (by decide)), e_s45, zU_at (Or.inr (by decide))])
                            have f325 := zf hS_s44 ha (k := 22) rfl
                            have g326 : s47 a 23 = s44 a 23 := (by rw [(zFr_g hF_s47 ha (by decide)), e_s45, zU_at (Or.inr (by decide))])
                            have f327 := zf hS_s44 ha (k := 23) rfl
                            have g328 : s47 a 24 = s44 a 24 := (by rw [(zFr_g hF_s47 ha (by decide)), e_s45, zU_at (Or.inr (by decide))])
                            have f329 := zf hS_s44 ha (k := 24) rfl
                            have g330 : s47 a 38 = s44 a 38 := (by rw [(zFr_g hF_s47 ha (by decide)), e_s45, zU_at (Or.inr (by decide))])
                            have f331 := zf hS_s44 ha (k := 38) rfl
                            have g332 : s47 a 51 = s44 a 51 := (by rw [(zFr_g hF_s47 ha (by decide)), e_s45, zU_at (Or.inr (by decide))])
                            have f333 := zf hS_s44 ha (k := 51) rfl
                            have g334 : s47 a 52 = s44 a 52 := (by rw [(zFr_g hF_s47 ha (by decide)), e_s45, zU_at (Or.inr (by decide))])
                            have f335 := zf hS_s44 ha (k := 52) rfl
                            exact j_iret hx hq rfl (by decide) (by decide) dX12_book_204 ⟨v316, rfl, rfl, hS_s47, (zFr_t (zFr_u (zFr_t (zFr_t (zFr_t (zFr_t (zFr_t (zFr_t (zFr_t (zFr_u zFr_rf e_s1 ha (by decide)) hF_s5 (by decide)) hF_s7 (by decide)) hF_s30 (by decide)) hF_s39 (by decide)) hF_s40 (by decide)) hF_s41 (by decide)) hF_s44 (by decide)) e_s45 ha (by decide)) hF_s47 (by decide)), ⟨(by omega), by omega, by omega, by omega, by omega, by omega, by omega, by omega⟩⟩
                          · skip
                            refine j_aload_n hx 0 dX12_book_183 rfl ?_
                            refine g13_40 hx hG ha kf_RX12_92 dX12_book_184 ?_
                            refine j_iload hx 3 dX12_book_187 rfl ?_
                            refine j_aload_n hx 0 dX12_book_189 rfl ?_
                            refine g13_39 hx hG ha kf_RX12_89 dX12_book_190 ?_
                            refine j_iload hx 3 dX12_book_193 rfl ?_
                            have f336 := zaI (j := (v320).toNat) hS_s7 (zr (k := 39) (t2 := 96) hG ha rfl) rfl (zlen hG (zr (k := 39) (t2 := 96) hG ha rfl) (n := 24) rfl rfl) (show 0 ≤ v320 by omega) (by omega) rfl
                            refine j_iald hx hG (zr (k := 39) (t2 := 96) hG ha rfl) (by decide) rfl (zlen hG (zr (k := 39) (t2 := 96) hG ha rfl) (n := 24) rfl rfl) (by omega) (by omega) (j := (v320).toNat) rfl (v := (s7 (gP G a 39) (v320).toNat)) (by rw [(zFr_g hF_s47 (zr (k := 39) (t2 := 96) hG ha rfl) (by decide)), e_s45, zU_at (Or.inl (zne ha (zr (k := 39) (t2 := 96) hG ha rfl) (by decide))), (zFr_g hF_s44 (zr (k := 39) (t2 := 96) hG ha rfl) (by decide)), (zFr_g hF_s41 (zr (k := 39) (t2 := 96) hG ha rfl) (by decide)), (zFr_g hF_s40 (zr (k := 39) (t2 := 96) hG ha rfl) (by decide)), (zFr_g hF_s39 (zr (k := 39) (t2 := 96) hG ha rfl) (by decide)), (zFr_g hF_s30 (zr (k := 39) (t2 := 96) hG ha rfl) (by decide))]) dX12_book_195 ?_
                            refine j_iast hx hG (zr (k := 40) (t2 := 97) hG ha rfl) (by decide) rfl (zlen hG (zr (k := 40) (t2 := 97) hG ha rfl) (n := 24) rfl rfl) (by omega) (by omega) (j := (v320).toNat) rfl dX12_book_196 ?_
                            obtain ⟨s51, e_s51⟩ : ∃ z, z = zU s47 (gP G a 40) (v320).toNat ((s7 (gP G a 39) (v320).toNat)) := ⟨_, rfl⟩
                            rw [← e_s51]
                            have hS_s51 : zSK G s51 := by rw [e_s51]; exact zSK_A hS_s47 (zr (k := 40) (t2 := 97) hG ha rfl) rfl rfl rfl (by omega)
                            refine j_iinc hx 3 [(4, .int (zI (v320 + 1))), (0, .ref a), (2, .int (zI v124)), (3, .int (zI v316))] dX12_book_197 rfl (by omega) (by decide) rfl ?_
                            refine j_goto hx 175 dX12_book_200 rfl ?_
                            exact j_sub [1, 2, 3, 0] [(0, .ref a), (2, .int (zI v124)), (3, .int (zI v316)), (4, .int (zI (v320 + 1)))] rfl (ih_c175_46 (v320 + 1) s51 (by omega) (by omega) hS_s51 (zFr_u (zFr_t zFr_rf hF_s47 (by decide)) e_s51 (zr (k := 40) (t2 := 97) hG ha rfl) (by decide)))
                      exact j_sub [3, 4, 1, 0] [(0, .ref a), (2, .int (zI v124)), (3, .int (zI v316)), (4, .int (zI 0))] rfl (c175_46 (2147483648 * 4) 0 s45 (by omega) (by omega) hS_s45 zFr_rf)
                    · skip
                      refine j_iload_n hx 0 dX12_book_165 rfl ?_
                      have f337 := zf hS_s44 ha (k := 21) rfl
                      have f338 := zf hS_s44 ha (k := 22) rfl
                      have f339 := zf hS_s44 ha (k := 23) rfl
                      have f340 := zf hS_s44 ha (k := 24) rfl
                      have f341 := zf hS_s44 ha (k := 38) rfl
                      have f342 := zf hS_s44 ha (k := 51) rfl
                      have f343 := zf hS_s44 ha (k := 52) rfl
                      exact j_iret hx hq rfl (by decide) (by decide) dX12_book_166 ⟨v316, rfl, rfl, hS_s44, (zFr_t (zFr_t (zFr_t (zFr_t (zFr_t (zFr_t (zFr_t (zFr_u zFr_rf e_s1 ha (by decide)) hF_s5 (by decide)) hF_s7 (by decide)) hF_s30 (by decide)) hF_s39 (by decide)) hF_s40 (by decide)) hF_s41 (by decide)) hF_s44 (by decide)), ⟨(by omega), by omega, by omega, by omega, by omega, by omega, by omega, by omega⟩⟩
                · skip
                  refine j_iload_n hx 3 dX12_book_82 rfl ?_
                  refine j_bipush hx dX12_book_83 rfl ?_
                  refine j_icmp_ne hx 94 dX12_book_85 rfl (by omega) ⟨by decide, by decide⟩ (fun h344 => ?_) (fun h344 => ?_)
                  · skip
                    refine j_aload_n hx 2 dX12_book_94 rfl ?_
                    refine j_iconst hx dX12_book_95 ?_
                    refine j_aload_n hx 2 dX12_book_96 rfl ?_
                    have f345 := zf hS_s39 ha (k := 24) rfl
                    refine g13_24 hx hG ha kf_RX12_189 rfl dX12_book_97 ?_
                    refine j_iconst hx dX12_book_100 ?_
                    refine j_isub hx (r := (s39 a 24) - 1) dX12_book_101 (by omega) ?_
                    have f346 := zf hS_s39 ha (k := 4) rfl
                    have f347 := zf hS_s39 ha (k := 5) rfl
                    have f348 := zf hS_s39 ha (k := 3) rfl
                    have f349 := zf hS_s39 ha (k := 0) rfl
                    have f350 := zf hS_s39 ha (k := 7) rfl
                    have f351 := zf hS_s39 ha (k := 21) rfl
                    have f352 := zf hS_s39 ha (k := 22) rfl
                    have f353 := zf hS_s39 ha (k := 23) rfl
                    have f354 := zf hS_s39 ha (k := 38) rfl
                    have f355 := zf hS_s39 ha (k := 51) rfl
                    have f356 := zf hS_s39 ha (k := 52) rfl
                    refine j_callV hx hG (c_X12_readNumber hst a 0 ((s39 a 24) - 1)) lk_RX12_219 ha (by decide) rfl rfl rfl rfl [.int (zI 0), .int (zI ((s39 a 24) - 1))] ⟨rfl, hG, hS_s39, ha, (by omega), (by omega)⟩ rfl rfl ⟨by decide, by decide⟩ ⟨by decide, by decide⟩ (k2 := 0) (n2 := 0) rfl rfl (Nat.le_of_ble_eq_true rfl) dX12_book_102 (kIM (fun v357 s52 hS_s52 hF_s52 q358 => ?_))
                    refine j_istore hx [(5, .int (zI v357)), (4, .int (zI v244)), (3, .int (zI ((s30 a 4)))), (0, .ref a), (2, .int (zI v124))] dX12_book_105 (by decide) rfl ?_
                    refine j_aload_n hx 3 dX12_book_107 rfl ?_
                    refine j_bipush hx dX12_book_108 rfl ?_
                    have f359 := zf hS_s52 ha (k := 4) rfl
                    have f360 := zf hS_s52 ha (k := 5) rfl
                    have f361 := zf hS_s52 ha (k := 3) rfl
                    have f362 := zf hS_s52 ha (k := 0) rfl
                    have f363 := zf hS_s52 ha (k := 7) rfl
                    have f364 := zf hS_s52 ha (k := 21) rfl
                    have f365 := zf hS_s52 ha (k := 22) rfl
                    have f366 := zf hS_s52 ha (k := 23) rfl
                    have f367 := zf hS_s52 ha (k := 24) rfl
                    have f368 := zf hS_s52 ha (k := 38) rfl
                    have f369 := zf hS_s52 ha (k := 51) rfl
                    have f370 := zf hS_s52 ha (k := 52) rfl
                    refine j_callV hx hG (c_X12_sign hst a 59) lk_RX12_262 ha (by decide) rfl rfl rfl rfl [.int (zI 59)] ⟨rfl, hG, hS_s52, ha, (by omega)⟩ rfl rfl ⟨by decide, by decide⟩ ⟨by decide, by decide⟩ (k2 := 0) (n2 := 0) rfl rfl (Nat.le_of_ble_eq_true rfl) dX12_book_110 (kVM (fun s53 hS_s53 hF_s53 q372 => ?_))
                    refine j_aload_n hx 3 dX12_book_113 rfl ?_
                    refine j_callV hx hG (c_X12_fine hst a) lk_RX12_166 ha (by decide) rfl rfl rfl rfl [] ⟨rfl, hG, hS_s53, ha⟩ rfl rfl ⟨by decide, by decide⟩ ⟨by decide, by decide⟩ (k2 := 0) (n2 := 0) rfl rfl (Nat.le_of_ble_eq_true rfl) dX12_book_114 (kIP (fun v373 q374 => ?_))
                    refine j_if_ne hx 123 dX12_book_117 rfl (by omega) (fun h375 => ?_) (fun h375 => ?_)
                    · skip
                      refine j_aload_n hx 3 dX12_book_123 rfl ?_
                      refine g13_39 hx hG ha kf_RX12_89 dX12_book_124 ?_
                      refine j_iconst hx dX12_book_127 ?_
                      refine j_iload_n hx 4 dX12_book_128 rfl ?_
                      refine j_imul hx (r := 2 * v124) dX12_book_129 rfl ?_
                      refine j_iload hx 1 dX12_book_130 rfl ?_
                      refine j_iast hx hG (zr (k := 39) (t2 := 96) hG ha rfl) (by decide) rfl (zlen hG (zr (k := 39) (t2 := 96) hG ha rfl) (n := 24) rfl rfl) (by omega) (by omega) (j := (2 * v124).toNat) rfl dX12_book_132 ?_
                      obtain ⟨s54, e_s54⟩ : ∃ z, z = zU s53 (gP G a 39) (2 * v124).toNat v244 := ⟨_, rfl⟩
                      rw [← e_s54]
                      have hS_s54 : zSK G s54 := by rw [e_s54]; exact zSK_A hS_s53 (zr (k := 39) (t2 := 96) hG ha rfl) rfl rfl rfl (by omega)
                      refine j_aload_n hx 3 dX12_book_133 rfl ?_
                      refine g13_39 hx hG ha kf_RX12_89 dX12_book_134 ?_
                      refine j_iconst hx dX12_book_137 ?_
                      refine j_iload_n hx 4 dX12_book_138 rfl ?_
                      refine j_imul hx (r := 2 * v124) dX12_book_139 rfl ?_
                      refine j_iconst hx dX12_book_140 ?_
                      refine j_iadd hx (r := 2 * v124 + 1) dX12_book_141 (by omega) ?_
                      refine j_iload hx 0 dX12_book_142 rfl ?_
                      refine j_iast hx hG (zr (k := 39) (t2 := 96) hG ha rfl) (by decide) rfl (zlen hG (zr (k := 39) (t2 := 96) hG ha rfl) (n := 24) rfl rfl) (by omega) (by omega) (j := (2 * v124 + 1).toNat) rfl dX12_book_144 ?_
                      obtain ⟨s55, e_s55⟩ : ∃ z, z = zU s54 (gP G a 39) (2 * v124 + 1).toNat v357 := ⟨_, rfl⟩
                      rw [← e_s55]
                      have hS_s55 : zSK G s55 := by rw [e_s55]; exact zSK_A hS_s54 (zr (k := 39) (t2 := 96) hG ha rfl) rfl rfl rfl (by omega)
                      refine j_iinc hx 4 [(2, .int (zI (v124 + 1))), (5, .int (zI v357)), (4, .int (zI v244)), (3, .int (zI ((s30 a 4)))), (0, .ref a)] dX12_book_145 rfl (by omega) (by decide) rfl ?_
                      refine j_goto hx 46 dX12_book_148 rfl ?_
                      have g376 : s55 a 4 = s53 a 4 := (by rw [e_s55, zU_at (Or.inl (zne (zr (k := 39) (t2 := 96) hG ha rfl) ha (by decide))), e_s54, zU_at (Or.inl (zne (zr (k := 39) (t2 := 96) hG ha rfl) ha (by decide)))])
                      have f377 := zf hS_s53 ha (k := 4) rfl
                      have g378 : s55 a 5 = s53 a 5 := (by rw [e_s55, zU_at (Or.inl (zne (zr (k := 39) (t2 := 96) hG ha rfl) ha (by decide))), e_s54, zU_at (Or.inl (zne (zr (k := 39) (t2 := 96) hG ha rfl) ha (by decide)))])
                      have f379 := zf hS_s53 ha (k := 5) rfl
                      have g380 : s55 a 0 = s53 a 0 := (by rw [e_s55, zU_at (Or.inl (zne (zr (k := 39) (t2 := 96) hG ha rfl) ha (by decide))), e_s54, zU_at (Or.inl (zne (zr (k := 39) (t2 := 96) hG ha rfl) ha (by decide)))])
                      have f381 := zf hS_s53 ha (k := 0) rfl
                      have g382 : s55 a 3 = s53 a 3 := (by rw [e_s55, zU_at (Or.inl (zne (zr (k := 39) (t2 := 96) hG ha rfl) ha (by decide))), e_s54, zU_at (Or.inl (zne (zr (k := 39) (t2 := 96) hG ha rfl) ha (by decide)))])
                      have f383 := zf hS_s53 ha (k := 3) rfl
                      have g384 : s55 a 7 = s53 a 7 := (by rw [e_s55, zU_at (Or.inl (zne (zr (k := 39) (t2 := 96) hG ha rfl) ha (by decide))), e_s54, zU_at (Or.inl (zne (zr (k := 39) (t2 := 96) hG ha rfl) ha (by decide)))])
                      have f385 := zf hS_s53 ha (k := 7) rfl
                      have g386 : s55 a 21 = s53 a 21 := (by rw [e_s55, zU_at (Or.inl (zne (zr (k := 39) (t2 := 96) hG ha rfl) ha (by decide))), e_s54, zU_at (Or.inl (zne (zr (k := 39) (t2 := 96) hG ha rfl) ha (by decide)))])
                      have f387 := zf hS_s53 ha (k := 21) rfl
                      have g388 : s55 a 22 = s53 a 22 := (by rw [e_s55, zU_at (Or.inl (zne (zr (k := 39) (t2 := 96) hG ha rfl) ha (by decide))), e_s54, zU_at (Or.inl (zne (zr (k := 39) (t2 := 96) hG ha rfl) ha (by decide)))])
                      have f389 := zf hS_s53 ha (k := 22) rfl
                      have g390 : s55 a 23 = s53 a 23 := (by rw [e_s55, zU_at (Or.inl (zne (zr (k := 39) (t2 := 96) hG ha rfl) ha (by decide))), e_s54, zU_at (Or.inl (zne (zr (k := 39) (t2 := 96) hG ha rfl) ha (by decide)))])
                      have f391 := zf hS_s53 ha (k := 23) rfl
                      have g392 : s55 a 24 = s53 a 24 := (by rw [e_s55, zU_at (Or.inl (zne (zr (k := 39) (t2 := 96) hG ha rfl) ha (by decide))), e_s54, zU_at (Or.inl (zne (zr (k := 39) (t2 := 96) hG ha rfl) ha (by decide)))])
                      have f393 := zf hS_s53 ha (k := 24) rfl
                      have g394 : s55 a 38 = s53 a 38 := (by rw [e_s55, zU_at (Or.inl (zne (zr (k := 39) (t2 := 96) hG ha rfl) ha (by decide))), e_s54, zU_at (Or.inl (zne (zr (k := 39) (t2 := 96) hG ha rfl) ha (by decide)))])
                      have f395 := zf hS_s53 ha (k := 38) rfl
                      have g396 : s55 a 51 = s53 a 51 := (by rw [e_s55, zU_at (Or.inl (zne (zr (k := 39) (t2 := 96) hG ha rfl) ha (by decide))), e_s54, zU_at (Or.inl (zne (zr (k := 39) (t2 := 96) hG ha rfl) ha (by decide)))])
                      have f397 := zf hS_s53 ha (k := 51) rfl
                      have g398 : s55 a 52 = s53 a 52 := (by rw [e_s55, zU_at (Or.inl (zne (zr (k := 39) (t2 := 96) hG ha rfl) ha (by decide))), e_s54, zU_at (Or.inl (zne (zr (k := 39) (t2 := 96) hG ha rfl) ha (by decide)))])
                      have f399 := zf hS_s53 ha (k := 52) rfl
                      exact j_sub [4, 0] [(0, .ref a), (2, .int (zI (v124 + 1)))] rfl (ih_c46_6 (v124 + 1) s55 (by omega) (by omega) hS_s55 (zFr_u (zFr_u (zFr_t (zFr_t (zFr_t (zFr_t (zFr_t zFr_rf hF_s7 (by decide)) hF_s30 (by decide)) hF_s39 (by decide)) hF_s52 (by decide)) hF_s53 (by decide)) e_s54 (zr (k := 39) (t2 := 96) hG ha rfl) (by decide)) e_s55 (zr (k := 39) (t2 := 96) hG ha rfl) (by decide)) (by omega) (by omega) (by omega) (by omega) (by omega) (by omega) (by omega) (by omega) (by omega) (by omega) (by omega))
                    · skip
                      refine j_goto hx 151 dX12_book_120 rfl ?_
                      refine j_aload_n hx 3 dX12_book_151 rfl ?_
                      refine j_iload_n hx 4 dX12_book_152 rfl ?_
                      have f400 := zf hS_s53 ha (k := 0) rfl
                      have f401 := zf hS_s53 ha (k := 3) rfl
                      have f402 := zf hS_s53 ha (k := 4) rfl
                      have f403 := zf hS_s53 ha (k := 5) rfl
                      have f404 := zf hS_s53 ha (k := 7) rfl
                      have f405 := zf hS_s53 ha (k := 21) rfl
                      have f406 := zf hS_s53 ha (k := 22) rfl
                      have f407 := zf hS_s53 ha (k := 23) rfl
                      have f408 := zf hS_s53 ha (k := 24) rfl
                      have f409 := zf hS_s53 ha (k := 38) rfl
                      have f410 := zf hS_s53 ha (k := 51) rfl
                      have f411 := zf hS_s53 ha (k := 52) rfl
                      refine j_callV hx hG (c_X12_result hst a v124) lk_RX12_265 ha (by decide) rfl rfl rfl rfl [.int (zI v124)] ⟨rfl, hG, hS_s53, ha, (by omega)⟩ rfl rfl ⟨by decide, by decide⟩ ⟨by decide, by decide⟩ (k2 := 0) (n2 := 0) rfl rfl (Nat.le_of_ble_eq_true rfl) dX12_book_153 (kIM (fun v412 s56 hS_s56 hF_s56 q413 => ?_))
                      refine j_istore_n hx [(3, .int (zI v412)), (5, .int (zI v357)), (4, .int (zI v244)), (0, .ref a), (2, .int (zI v124))] dX12_book_156 (by decide) rfl ?_
                      refine j_aload_n hx 3 dX12_book_157 rfl ?_
                      have f414 := zf hS_s56 ha (k := 5) rfl
                      refine g13_5 hx hG ha kf_RX12_137 rfl dX12_book_158 ?_
                      refine j_iconst hx dX12_book_161 ?_
                      refine j_icmp_eq hx 167 dX12_book_162 rfl (by omega) ⟨by decide, by decide⟩ (fun h415 => ?_) (fun h415 => ?_)
                      · skip
                        refine j_aload_n hx 3 dX12_book_167 rfl ?_
                        refine j_iload_n hx 4 dX12_book_168 rfl ?_
                        refine p13_41 hx hG ha kf_RX12_198 dX12_book_169 ?_
                        obtain ⟨s57, e_s57⟩ : ∃ z, z = zU s56 a 41 v124 := ⟨_, rfl⟩
                        rw [← e_s57]
                        have hS_s57 : zSK G s57 := by rw [e_s57]; exact zSK_F hS_s56 ha rfl rfl rfl (by omega)
                        refine j_iconst hx dX12_book_172 ?_
                        refine j_istore hx [(4, .int (zI 0)), (3, .int (zI v412)), (5, .int (zI v357)), (0, .ref a), (2, .int (zI v124))] dX12_book_173 (by decide) rfl ?_
                        have c175_58 : ∀ (m_c175_58 : Nat) (v416 : Int) (s59 : zS), 2147483648 - v416 < m_c175_58 → (0 ≤ v416 ∧ v416 ≤ 2147483647) → (zSK G s59) → (zFr [97] G s57 s59) → JJ X E 6 G s59 0 0 [(0, .ref a), (2, .int (zI v124)), (3, .int (zI v412)), (4, .int (zI v416))] 175 [] := by
                          intro m_c175_58
                          induction m_c175_58 with
                          | zero => intro v416 s59 hm_c175_58 fA60 hS_s59 hF_s59; exfalso; omega
                          | succ m_c175_58 ih_c175_58 => 
                            intro v416 s59 hm_c175_58 fA60 hS_s59 hF_s59
                            refine j_iload hx 3 dX12_book_175 rfl ?_
                            refine j_iconst hx dX12_book_177 ?_
                            refine j_iload_n hx 1 dX12_book_178 rfl ?_
                            refine j_imul hx (r := 2 * v124) dX12_book_179 rfl ?_
                            refine j_icmp_ge hx 203 dX12_book_180 rfl (by omega) (by omega) (fun h417 => ?_) (fun h417 => ?_)
                            · skip
                              refine j_iload_n hx 2 dX12_book_203 rfl ?_
                              have g418 : s59 a 21 = s56 a 21 := (by rw [(zFr_g hF_s59 ha (by decide)), e_s57, zU_at (Or.inr (by decide))])
                              have f419 := zf hS_s56 ha (k := 21) rfl
                              have g420 : s59 a 22 = s56 a 22 := (by rw [(zFr_g hF_s59 ha (by decide)), e_s57, zU_at (Or.inr (by decide))])
                              have f421 := zf hS_s56 ha (k := 22) rfl
                              have g422 : s59 a 23 = s56 a 23 := (by rw [(zFr_g hF_s59 ha (by decide)), e_s57, zU_at (Or.inr (by decide))])
                              have f423 := zf hS_s56 ha (k := 23) rfl
                              have g424 : s59 a 24 = s56 a 24 := (by rw [(zFr_g hF_s59 ha (by decide)), e_s57, zU_at (Or.inr (by decide))])
                              have f425 := zf hS_s56 ha (k := 24) rfl
                              have g426 : s59 a 38 = s56 a 38 := (by rw [(zFr_g hF_s59 ha (by decide)), e_s57, zU_at (Or.inr (by decide))])
                              have f427 := zf hS_s56 ha (k := 38) rfl
                              have g428 : s59 a 51 = s56 a 51 := (by rw [(zFr_g hF_s59 ha (by decide)), e_s57, zU_at (Or.inr (by decide))])
                              have f429 := zf hS_s56 ha (k := 51) rfl
                              have g430 : s59 a 52 = s56 a 52 := (by rw [(zFr_g hF_s59 ha (by decide)), e_s57, zU_at (Or.inr (by decide))])
                              have f431 := zf hS_s56 ha (k := 52) rfl
                              exact j_iret hx hq rfl (by decide) (by decide) dX12_book_204 ⟨v412, rfl, rfl, hS_s59, (zFr_t (zFr_u (zFr_t (zFr_t (zFr_t (zFr_t (zFr_t (zFr_t (zFr_t (zFr_u zFr_rf e_s1 ha (by decide)) hF_s5 (by decide)) hF_s7 (by decide)) hF_s30 (by decide)) hF_s39 (by decide)) hF_s52 (by decide)) hF_s53 (by decide)) hF_s56 (by decide)) e_s57 ha (by decide)) hF_s59 (by decide)), ⟨(by omega), by omega, by omega, by omega, by omega, by omega, by omega, by omega⟩⟩
                            · skip
                              refine j_aload_n hx 0 dX12_book_183 rfl ?_
                              refine g13_40 hx hG ha kf_RX12_92 dX12_book_184 ?_
                              refine j_iload hx 3 dX12_book_187 rfl ?_
                              refine j_aload_n hx 0 dX12_book_189 rfl ?_
                              refine g13_39 hx hG ha kf_RX12_89 dX12_book_190 ?_
                              refine j_iload hx 3 dX12_book_193 rfl ?_
                              have f432 := zaI (j := (v416).toNat) hS_s7 (zr (k := 39) (t2 := 96) hG ha rfl) rfl (zlen hG (zr (k := 39) (t2 := 96) hG ha rfl) (n := 24) rfl rfl) (show 0 ≤ v416 by omega) (by omega) rfl
                              refine j_iald hx hG (zr (k := 39) (t2 := 96) hG ha rfl) (by decide) rfl (zlen hG (zr (k := 39) (t2 := 96) hG ha rfl) (n := 24) rfl rfl) (by omega) (by omega) (j := (v416).toNat) rfl (v := (s7 (gP G a 39) (v416).toNat)) (by rw [(zFr_g hF_s59 (zr (k := 39) (t2 := 96) hG ha rfl) (by decide)), e_s57, zU_at (Or.inl (zne ha (zr (k := 39) (t2 := 96) hG ha rfl) (by decide))), (zFr_g hF_s56 (zr (k := 39) (t2 := 96) hG ha rfl) (by decide)), (zFr_g hF_s53 (zr (k := 39) (t2 := 96) hG ha rfl) (by decide)), (zFr_g hF_s52 (zr (k := 39) (t2 := 96) hG ha rfl) (by decide)), (zFr_g hF_s39 (zr (k := 39) (t2 := 96) hG ha rfl) (by decide)), (zFr_g hF_s30 (zr (k := 39) (t2 := 96) hG ha rfl) (by decide))]) dX12_book_195 ?_
                              refine j_iast hx hG (zr (k := 40) (t2 := 97) hG ha rfl) (by decide) rfl (zlen hG (zr (k := 40) (t2 := 97) hG ha rfl) (n := 24) rfl rfl) (by omega) (by omega) (j := (v416).toNat) rfl dX12_book_196 ?_
                              obtain ⟨s63, e_s63⟩ : ∃ z, z = zU s59 (gP G a 40) (v416).toNat ((s7 (gP G a 39) (v416).toNat)) := ⟨_, rfl⟩
                              rw [← e_s63]
                              have hS_s63 : zSK G s63 := by rw [e_s63]; exact zSK_A hS_s59 (zr (k := 40) (t2 := 97) hG ha rfl) rfl rfl rfl (by omega)
                              refine j_iinc hx 3 [(4, .int (zI (v416 + 1))), (0, .ref a), (2, .int (zI v124)), (3, .int (zI v412))] dX12_book_197 rfl (by omega) (by decide) rfl ?_
                              refine j_goto hx 175 dX12_book_200 rfl ?_
                              exact j_sub [1, 2, 3, 0] [(0, .ref a), (2, .int (zI v124)), (3, .int (zI v412)), (4, .int (zI (v416 + 1)))] rfl (ih_c175_58 (v416 + 1) s63 (by omega) (by omega) hS_s63 (zFr_u (zFr_t zFr_rf hF_s59 (by decide)) e_s63 (zr (k := 40) (t2 := 97) hG ha rfl) (by decide)))
                        exact j_sub [3, 4, 1, 0] [(0, .ref a), (2, .int (zI v124)), (3, .int (zI v412)), (4, .int (zI 0))] rfl (c175_58 (2147483648 * 4) 0 s57 (by omega) (by omega) hS_s57 zFr_rf)
                      · skip
                        refine j_iload_n hx 0 dX12_book_165 rfl ?_
                        have f433 := zf hS_s56 ha (k := 21) rfl
                        have f434 := zf hS_s56 ha (k := 22) rfl
                        have f435 := zf hS_s56 ha (k := 23) rfl
                        have f436 := zf hS_s56 ha (k := 24) rfl
                        have f437 := zf hS_s56 ha (k := 38) rfl
                        have f438 := zf hS_s56 ha (k := 51) rfl
                        have f439 := zf hS_s56 ha (k := 52) rfl
                        exact j_iret hx hq rfl (by decide) (by decide) dX12_book_166 ⟨v412, rfl, rfl, hS_s56, (zFr_t (zFr_t (zFr_t (zFr_t (zFr_t (zFr_t (zFr_t (zFr_u zFr_rf e_s1 ha (by decide)) hF_s5 (by decide)) hF_s7 (by decide)) hF_s30 (by decide)) hF_s39 (by decide)) hF_s52 (by decide)) hF_s53 (by decide)) hF_s56 (by decide)), ⟨(by omega), by omega, by omega, by omega, by omega, by omega, by omega, by omega⟩⟩
                  · skip
                    refine j_aload_n hx 2 dX12_book_88 rfl ?_
                    refine j_iconst hx dX12_book_89 ?_
                    refine j_iload_n hx 1 dX12_book_90 rfl ?_
                    have f440 := zf hS_s39 ha (k := 0) rfl
                    have f441 := zf hS_s39 ha (k := 3) rfl
                    have f442 := zf hS_s39 ha (k := 4) rfl
                    have f443 := zf hS_s39 ha (k := 7) rfl
                    have f444 := zf hS_s39 ha (k := 21) rfl
                    have f445 := zf hS_s39 ha (k := 22) rfl
                    have f446 := zf hS_s39 ha (k := 23) rfl
                    have f447 := zf hS_s39 ha (k := 24) rfl
                    have f448 := zf hS_s39 ha (k := 38) rfl
                    have f449 := zf hS_s39 ha (k := 51) rfl
                    have f450 := zf hS_s39 ha (k := 52) rfl
                    refine j_callV hx hG (c_X12_wrong hst a 3 ((s30 a 4))) lk_RX12_173 ha (by decide) rfl rfl rfl rfl [.int (zI 3), .int (zI ((s30 a 4)))] ⟨rfl, hG, hS_s39, ha, (by omega), (by omega)⟩ rfl rfl ⟨by decide, by decide⟩ ⟨by decide, by decide⟩ (k2 := 0) (n2 := 0) rfl rfl (Nat.le_of_ble_eq_true rfl) dX12_book_91 (kVM (fun s64 hS_s64 hF_s64 q452 => ?_))
                    refine j_aload_n hx 2 dX12_book_94 rfl ?_
                    refine j_iconst hx dX12_book_95 ?_
                    refine j_aload_n hx 2 dX12_book_96 rfl ?_
                    have f453 := zf hS_s64 ha (k := 24) rfl
                    refine g13_24 hx hG ha kf_RX12_189 rfl dX12_book_97 ?_
                    refine j_iconst hx dX12_book_100 ?_
                    refine j_isub hx (r := (s64 a 24) - 1) dX12_book_101 (by omega) ?_
                    have f454 := zf hS_s64 ha (k := 4) rfl
                    have f455 := zf hS_s64 ha (k := 5) rfl
                    have f456 := zf hS_s64 ha (k := 3) rfl
                    have f457 := zf hS_s64 ha (k := 0) rfl
                    have f458 := zf hS_s64 ha (k := 7) rfl
                    have f459 := zf hS_s64 ha (k := 21) rfl
                    have f460 := zf hS_s64 ha (k := 22) rfl
                    have f461 := zf hS_s64 ha (k := 23) rfl
                    have f462 := zf hS_s64 ha (k := 38) rfl
                    have f463 := zf hS_s64 ha (k := 51) rfl
                    have f464 := zf hS_s64 ha (k := 52) rfl
                    refine j_callV hx hG (c_X12_readNumber hst a 0 ((s64 a 24) - 1)) lk_RX12_219 ha (by decide) rfl rfl rfl rfl [.int (zI 0), .int (zI ((s64 a 24) - 1))] ⟨rfl, hG, hS_s64, ha, (by omega), (by omega)⟩ rfl rfl ⟨by decide, by decide⟩ ⟨by decide, by decide⟩ (k2 := 0) (n2 := 0) rfl rfl (Nat.le_of_ble_eq_true rfl) dX12_book_102 (kIM (fun v465 s65 hS_s65 hF_s65 q466 => ?_))
                    refine j_istore hx [(5, .int (zI v465)), (4, .int (zI v244)), (3, .int (zI ((s30 a 4)))), (0, .ref a), (2, .int (zI v124))] dX12_book_105 (by decide) rfl ?_
                    refine j_aload_n hx 3 dX12_book_107 rfl ?_
                    refine j_bipush hx dX12_book_108 rfl ?_
                    have f467 := zf hS_s65 ha (k := 4) rfl
                    have f468 := zf hS_s65 ha (k := 5) rfl
                    have f469 := zf hS_s65 ha (k := 3) rfl
                    have f470 := zf hS_s65 ha (k := 0) rfl
                    have f471 := zf hS_s65 ha (k := 7) rfl
                    have f472 := zf hS_s65 ha (k := 21) rfl
                    have f473 := zf hS_s65 ha (k := 22) rfl
                    have f474 := zf hS_s65 ha (k := 23) rfl
                    have f475 := zf hS_s65 ha (k := 24) rfl
                    have f476 := zf hS_s65 ha (k := 38) rfl
                    have f477 := zf hS_s65 ha (k := 51) rfl
                    have f478 := zf hS_s65 ha (k := 52) rfl
                    refine j_callV hx hG (c_X12_sign hst a 59) lk_RX12_262 ha (by decide) rfl rfl rfl rfl [.int (zI 59)] ⟨rfl, hG, hS_s65, ha, (by omega)⟩ rfl rfl ⟨by decide, by decide⟩ ⟨by decide, by decide⟩ (k2 := 0) (n2 := 0) rfl rfl (Nat.le_of_ble_eq_true rfl) dX12_book_110 (kVM (fun s66 hS_s66 hF_s66 q480 => ?_))
                    refine j_aload_n hx 3 dX12_book_113 rfl ?_
                    refine j_callV hx hG (c_X12_fine hst a) lk_RX12_166 ha (by decide) rfl rfl rfl rfl [] ⟨rfl, hG, hS_s66, ha⟩ rfl rfl ⟨by decide, by decide⟩ ⟨by decide, by decide⟩ (k2 := 0) (n2 := 0) rfl rfl (Nat.le_of_ble_eq_true rfl) dX12_book_114 (kIP (fun v481 q482 => ?_))
                    refine j_if_ne hx 123 dX12_book_117 rfl (by omega) (fun h483 => ?_) (fun h483 => ?_)
                    · skip
                      refine j_aload_n hx 3 dX12_book_123 rfl ?_
                      refine g13_39 hx hG ha kf_RX12_89 dX12_book_124 ?_
                      refine j_iconst hx dX12_book_127 ?_
                      refine j_iload_n hx 4 dX12_book_128 rfl ?_
                      refine j_imul hx (r := 2 * v124) dX12_book_129 rfl ?_
                      refine j_iload hx 1 dX12_book_130 rfl ?_
                      refine j_iast hx hG (zr (k := 39) (t2 := 96) hG ha rfl) (by decide) rfl (zlen hG (zr (k := 39) (t2 := 96) hG ha rfl) (n := 24) rfl rfl) (by omega) (by omega) (j := (2 * v124).toNat) rfl dX12_book_132 ?_
                      obtain ⟨s67, e_s67⟩ : ∃ z, z = zU s66 (gP G a 39) (2 * v124).toNat v244 := ⟨_, rfl⟩
                      rw [← e_s67]
                      have hS_s67 : zSK G s67 := by rw [e_s67]; exact zSK_A hS_s66 (zr (k := 39) (t2 := 96) hG ha rfl) rfl rfl rfl (by omega)
                      refine j_aload_n hx 3 dX12_book_133 rfl ?_
                      refine g13_39 hx hG ha kf_RX12_89 dX12_book_134 ?_
                      refine j_iconst hx dX12_book_137 ?_
                      refine j_iload_n hx 4 dX12_book_138 rfl ?_
                      refine j_imul hx (r := 2 * v124) dX12_book_139 rfl ?_
                      refine j_iconst hx dX12_book_140 ?_
                      refine j_iadd hx (r := 2 * v124 + 1) dX12_book_141 (by omega) ?_
                      refine j_iload hx 0 dX12_book_142 rfl ?_
                      refine j_iast hx hG (zr (k := 39) (t2 := 96) hG ha rfl) (by decide) rfl (zlen hG (zr (k := 39) (t2 := 96) hG ha rfl) (n := 24) rfl rfl) (by omega) (by omega) (j := (2 * v124 + 1).toNat) rfl dX12_book_144 ?_
                      obtain ⟨s68, e_s68⟩ : ∃ z, z = zU s67 (gP G a 39) (2 * v124 + 1).toNat v465 := ⟨_, rfl⟩
                      rw [← e_s68]
                      have hS_s68 : zSK G s68 := by rw [e_s68]; exact zSK_A hS_s67 (zr (k := 39) (t2 := 96) hG ha rfl) rfl rfl rfl (by omega)
                      refine j_iinc hx 4 [(2, .int (zI (v124 + 1))), (5, .int (zI v465)), (4, .int (zI v244)), (3, .int (zI ((s30 a 4)))), (0, .ref a)] dX12_book_145 rfl (by omega) (by decide) rfl ?_
                      refine j_goto hx 46 dX12_book_148 rfl ?_
                      have g484 : s68 a 4 = s66 a 4 := (by rw [e_s68, zU_at (Or.inl (zne (zr (k := 39) (t2 := 96) hG ha rfl) ha (by decide))), e_s67, zU_at (Or.inl (zne (zr (k := 39) (t2 := 96) hG ha rfl) ha (by decide)))])
                      have f485 := zf hS_s66 ha (k := 4) rfl
                      have g486 : s68 a 5 = s66 a 5 := (by rw [e_s68, zU_at (Or.inl (zne (zr (k := 39) (t2 := 96) hG ha rfl) ha (by decide))), e_s67, zU_at (Or.inl (zne (zr (k := 39) (t2 := 96) hG ha rfl) ha (by decide)))])
                      have f487 := zf hS_s66 ha (k := 5) rfl
                      have g488 : s68 a 0 = s66 a 0 := (by rw [e_s68, zU_at (Or.inl (zne (zr (k := 39) (t2 := 96) hG ha rfl) ha (by decide))), e_s67, zU_at (Or.inl (zne (zr (k := 39) (t2 := 96) hG ha rfl) ha (by decide)))])
                      have f489 := zf hS_s66 ha (k := 0) rfl
                      have g490 : s68 a 3 = s66 a 3 := (by rw [e_s68, zU_at (Or.inl (zne (zr (k := 39) (t2 := 96) hG ha rfl) ha (by decide))), e_s67, zU_at (Or.inl (zne (zr (k := 39) (t2 := 96) hG ha rfl) ha (by decide)))])
                      have f491 := zf hS_s66 ha (k := 3) rfl
                      have g492 : s68 a 7 = s66 a 7 := (by rw [e_s68, zU_at (Or.inl (zne (zr (k := 39) (t2 := 96) hG ha rfl) ha (by decide))), e_s67, zU_at (Or.inl (zne (zr (k := 39) (t2 := 96) hG ha rfl) ha (by decide)))])
                      have f493 := zf hS_s66 ha (k := 7) rfl
                      have g494 : s68 a 21 = s66 a 21 := (by rw [e_s68, zU_at (Or.inl (zne (zr (k := 39) (t2 := 96) hG ha rfl) ha (by decide))), e_s67, zU_at (Or.inl (zne (zr (k := 39) (t2 := 96) hG ha rfl) ha (by decide)))])
                      have f495 := zf hS_s66 ha (k := 21) rfl
                      have g496 : s68 a 22 = s66 a 22 := (by rw [e_s68, zU_at (Or.inl (zne (zr (k := 39) (t2 := 96) hG ha rfl) ha (by decide))), e_s67, zU_at (Or.inl (zne (zr (k := 39) (t2 := 96) hG ha rfl) ha (by decide)))])
                      have f497 := zf hS_s66 ha (k := 22) rfl
                      have g498 : s68 a 23 = s66 a 23 := (by rw [e_s68, zU_at (Or.inl (zne (zr (k := 39) (t2 := 96) hG ha rfl) ha (by decide))), e_s67, zU_at (Or.inl (zne (zr (k := 39) (t2 := 96) hG ha rfl) ha (by decide)))])
                      have f499 := zf hS_s66 ha (k := 23) rfl
                      have g500 : s68 a 24 = s66 a 24 := (by rw [e_s68, zU_at (Or.inl (zne (zr (k := 39) (t2 := 96) hG ha rfl) ha (by decide))), e_s67, zU_at (Or.inl (zne (zr (k := 39) (t2 := 96) hG ha rfl) ha (by decide)))])
                      have f501 := zf hS_s66 ha (k := 24) rfl
                      have g502 : s68 a 38 = s66 a 38 := (by rw [e_s68, zU_at (Or.inl (zne (zr (k := 39) (t2 := 96) hG ha rfl) ha (by decide))), e_s67, zU_at (Or.inl (zne (zr (k := 39) (t2 := 96) hG ha rfl) ha (by decide)))])
                      have f503 := zf hS_s66 ha (k := 38) rfl
                      have g504 : s68 a 51 = s66 a 51 := (by rw [e_s68, zU_at (Or.inl (zne (zr (k := 39) (t2 := 96) hG ha rfl) ha (by decide))), e_s67, zU_at (Or.inl (zne (zr (k := 39) (t2 := 96) hG ha rfl) ha (by decide)))])
                      have f505 := zf hS_s66 ha (k := 51) rfl
                      have g506 : s68 a 52 = s66 a 52 := (by rw [e_s68, zU_at (Or.inl (zne (zr (k := 39) (t2 := 96) hG ha rfl) ha (by decide))), e_s67, zU_at (Or.inl (zne (zr (k := 39) (t2 := 96) hG ha rfl) ha (by decide)))])
                      have f507 := zf hS_s66 ha (k := 52) rfl
                      exact j_sub [4, 0] [(0, .ref a), (2, .int (zI (v124 + 1)))] rfl (ih_c46_6 (v124 + 1) s68 (by omega) (by omega) hS_s68 (zFr_u (zFr_u (zFr_t (zFr_t (zFr_t (zFr_t (zFr_t (zFr_t zFr_rf hF_s7 (by decide)) hF_s30 (by decide)) hF_s39 (by decide)) hF_s64 (by decide)) hF_s65 (by decide)) hF_s66 (by decide)) e_s67 (zr (k := 39) (t2 := 96) hG ha rfl) (by decide)) e_s68 (zr (k := 39) (t2 := 96) hG ha rfl) (by decide)) (by omega) (by omega) (by omega) (by omega) (by omega) (by omega) (by omega) (by omega) (by omega) (by omega) (by omega))
                    · skip
                      refine j_goto hx 151 dX12_book_120 rfl ?_
                      refine j_aload_n hx 3 dX12_book_151 rfl ?_
                      refine j_iload_n hx 4 dX12_book_152 rfl ?_
                      have f508 := zf hS_s66 ha (k := 0) rfl
                      have f509 := zf hS_s66 ha (k := 3) rfl
                      have f510 := zf hS_s66 ha (k := 4) rfl
                      have f511 := zf hS_s66 ha (k := 5) rfl
                      have f512 := zf hS_s66 ha (k := 7) rfl
                      have f513 := zf hS_s66 ha (k := 21) rfl
                      have f514 := zf hS_s66 ha (k := 22) rfl
                      have f515 := zf hS_s66 ha (k := 23) rfl
                      have f516 := zf hS_s66 ha (k := 24) rfl
                      have f517 := zf hS_s66 ha (k := 38) rfl
                      have f518 := zf hS_s66 ha (k := 51) rfl
                      have f519 := zf hS_s66 ha (k := 52) rfl
                      refine j_callV hx hG (c_X12_result hst a v124) lk_RX12_265 ha (by decide) rfl rfl rfl rfl [.int (zI v124)] ⟨rfl, hG, hS_s66, ha, (by omega)⟩ rfl rfl ⟨by decide, by decide⟩ ⟨by decide, by decide⟩ (k2 := 0) (n2 := 0) rfl rfl (Nat.le_of_ble_eq_true rfl) dX12_book_153 (kIM (fun v520 s69 hS_s69 hF_s69 q521 => ?_))
                      refine j_istore_n hx [(3, .int (zI v520)), (5, .int (zI v465)), (4, .int (zI v244)), (0, .ref a), (2, .int (zI v124))] dX12_book_156 (by decide) rfl ?_
                      refine j_aload_n hx 3 dX12_book_157 rfl ?_
                      have f522 := zf hS_s69 ha (k := 5) rfl
                      refine g13_5 hx hG ha kf_RX12_137 rfl dX12_book_158 ?_
                      refine j_iconst hx dX12_book_161 ?_
                      refine j_icmp_eq hx 167 dX12_book_162 rfl (by omega) ⟨by decide, by decide⟩ (fun h523 => ?_) (fun h523 => ?_)
                      · skip
                        refine j_aload_n hx 3 dX12_book_167 rfl ?_
                        refine j_iload_n hx 4 dX12_book_168 rfl ?_
                        refine p13_41 hx hG ha kf_RX12_198 dX12_book_169 ?_
                        obtain ⟨s70, e_s70⟩ : ∃ z, z = zU s69 a 41 v124 := ⟨_, rfl⟩
                        rw [← e_s70]
                        have hS_s70 : zSK G s70 := by rw [e_s70]; exact zSK_F hS_s69 ha rfl rfl rfl (by omega)
                        refine j_iconst hx dX12_book_172 ?_
                        refine j_istore hx [(4, .int (zI 0)), (3, .int (zI v520)), (5, .int (zI v465)), (0, .ref a), (2, .int (zI v124))] dX12_book_173 (by decide) rfl ?_
                        have c175_71 : ∀ (m_c175_71 : Nat) (v524 : Int) (s72 : zS), 2147483648 - v524 < m_c175_71 → (0 ≤ v524 ∧ v524 ≤ 2147483647) → (zSK G s72) → (zFr [97] G s70 s72) → JJ X E 6 G s72 0 0 [(0, .ref a), (2, .int (zI v124)), (3, .int (zI v520)), (4, .int (zI v524))] 175 [] := by
                          intro m_c175_71
                          induction m_c175_71 with
                          | zero => intro v524 s72 hm_c175_71 fA73 hS_s72 hF_s72; exfalso; omega
                          | succ m_c175_71 ih_c175_71 => 
                            intro v524 s72 hm_c175_71 fA73 hS_s72 hF_s72
                            refine j_iload hx 3 dX12_book_175 rfl ?_
                            refine j_iconst hx dX12_book_177 ?_
                            refine j_iload_n hx 1 dX12_book_178 rfl ?_
                            refine j_imul hx (r := 2 * v124) dX12_book_179 rfl ?_
                            refine j_icmp_ge hx 203 dX12_book_180 rfl (by omega) (by omega) (fun h525 => ?_) (fun h525 => ?_)
                            · skip
                              refine j_iload_n hx 2 dX12_book_203 rfl ?_
                              have g526 : s72 a 21 = s69 a 21 := (by rw [(zFr_g hF_s72 ha (by decide)), e_s70, zU_at (Or.inr (by decide))])
                              have f527 := zf hS_s69 ha (k := 21) rfl
                              have g528 : s72 a 22 = s69 a 22 := (by rw [(zFr_g hF_s72 ha (by decide)), e_s70, zU_at (Or.inr (by decide))])
                              have f529 := zf hS_s69 ha (k := 22) rfl
                              have g530 : s72 a 23 = s69 a 23 := (by rw [(zFr_g hF_s72 ha (by decide)), e_s70, zU_at (Or.inr (by decide))])
                              have f531 := zf hS_s69 ha (k := 23) rfl
                              have g532 : s72 a 24 = s69 a 24 := (by rw [(zFr_g hF_s72 ha (by decide)), e_s70, zU_at (Or.inr (by decide))])
                              have f533 := zf hS_s69 ha (k := 24) rfl
                              have g534 : s72 a 38 = s69 a 38 := (by rw [(zFr_g hF_s72 ha (by decide)), e_s70, zU_at (Or.inr (by decide))])
                              have f535 := zf hS_s69 ha (k := 38) rfl
                              have g536 : s72 a 51 = s69 a 51 := (by rw [(zFr_g hF_s72 ha (by decide)), e_s70, zU_at (Or.inr (by decide))])
                              have f537 := zf hS_s69 ha (k := 51) rfl
                              have g538 : s72 a 52 = s69 a 52 := (by rw [(zFr_g hF_s72 ha (by decide)), e_s70, zU_at (Or.inr (by decide))])
                              have f539 := zf hS_s69 ha (k := 52) rfl
                              exact j_iret hx hq rfl (by decide) (by decide) dX12_book_204 ⟨v520, rfl, rfl, hS_s72, (zFr_t (zFr_u (zFr_t (zFr_t (zFr_t (zFr_t (zFr_t (zFr_t (zFr_t (zFr_t (zFr_u zFr_rf e_s1 ha (by decide)) hF_s5 (by decide)) hF_s7 (by decide)) hF_s30 (by decide)) hF_s39 (by decide)) hF_s64 (by decide)) hF_s65 (by decide)) hF_s66 (by decide)) hF_s69 (by decide)) e_s70 ha (by decide)) hF_s72 (by decide)), ⟨(by omega), by omega, by omega, by omega, by omega, by omega, by omega, by omega⟩⟩
                            · skip
                              refine j_aload_n hx 0 dX12_book_183 rfl ?_
                              refine g13_40 hx hG ha kf_RX12_92 dX12_book_184 ?_
                              refine j_iload hx 3 dX12_book_187 rfl ?_
                              refine j_aload_n hx 0 dX12_book_189 rfl ?_
                              refine g13_39 hx hG ha kf_RX12_89 dX12_book_190 ?_
                              refine j_iload hx 3 dX12_book_193 rfl ?_
                              have f540 := zaI (j := (v524).toNat) hS_s7 (zr (k := 39) (t2 := 96) hG ha rfl) rfl (zlen hG (zr (k := 39) (t2 := 96) hG ha rfl) (n := 24) rfl rfl) (show 0 ≤ v524 by omega) (by omega) rfl
                              refine j_iald hx hG (zr (k := 39) (t2 := 96) hG ha rfl) (by decide) rfl (zlen hG (zr (k := 39) (t2 := 96) hG ha rfl) (n := 24) rfl rfl) (by omega) (by omega) (j := (v524).toNat) rfl (v := (s7 (gP G a 39) (v524).toNat)) (by rw [(zFr_g hF_s72 (zr (k := 39) (t2 := 96) hG ha rfl) (by decide)), e_s70, zU_at (Or.inl (zne ha (zr (k := 39) (t2 := 96) hG ha rfl) (by decide))), (zFr_g hF_s69 (zr (k := 39) (t2 := 96) hG ha rfl) (by decide)), (zFr_g hF_s66 (zr (k := 39) (t2 := 96) hG ha rfl) (by decide)), (zFr_g hF_s65 (zr (k := 39) (t2 := 96) hG ha rfl) (by decide)), (zFr_g hF_s64 (zr (k := 39) (t2 := 96) hG ha rfl) (by decide)), (zFr_g hF_s39 (zr (k := 39) (t2 := 96) hG ha rfl) (by decide)), (zFr_g hF_s30 (zr (k := 39) (t2 := 96) hG ha rfl) (by decide))]) dX12_book_195 ?_
                              refine j_iast hx hG (zr (k := 40) (t2 := 97) hG ha rfl) (by decide) rfl (zlen hG (zr (k := 40) (t2 := 97) hG ha rfl) (n := 24) rfl rfl) (by omega) (by omega) (j := (v524).toNat) rfl dX12_book_196 ?_
                              obtain ⟨s76, e_s76⟩ : ∃ z, z = zU s72 (gP G a 40) (v524).toNat ((s7 (gP G a 39) (v524).toNat)) := ⟨_, rfl⟩
                              rw [← e_s76]
                              have hS_s76 : zSK G s76 := by rw [e_s76]; exact zSK_A hS_s72 (zr (k := 40) (t2 := 97) hG ha rfl) rfl rfl rfl (by omega)
                              refine j_iinc hx 3 [(4, .int (zI (v524 + 1))), (0, .ref a), (2, .int (zI v124)), (3, .int (zI v520))] dX12_book_197 rfl (by omega) (by decide) rfl ?_
                              refine j_goto hx 175 dX12_book_200 rfl ?_
                              exact j_sub [1, 2, 3, 0] [(0, .ref a), (2, .int (zI v124)), (3, .int (zI v520)), (4, .int (zI (v524 + 1)))] rfl (ih_c175_71 (v524 + 1) s76 (by omega) (by omega) hS_s76 (zFr_u (zFr_t zFr_rf hF_s72 (by decide)) e_s76 (zr (k := 40) (t2 := 97) hG ha rfl) (by decide)))
                        exact j_sub [3, 4, 1, 0] [(0, .ref a), (2, .int (zI v124)), (3, .int (zI v520)), (4, .int (zI 0))] rfl (c175_71 (2147483648 * 4) 0 s70 (by omega) (by omega) hS_s70 zFr_rf)
                      · skip
                        refine j_iload_n hx 0 dX12_book_165 rfl ?_
                        have f541 := zf hS_s69 ha (k := 21) rfl
                        have f542 := zf hS_s69 ha (k := 22) rfl
                        have f543 := zf hS_s69 ha (k := 23) rfl
                        have f544 := zf hS_s69 ha (k := 24) rfl
                        have f545 := zf hS_s69 ha (k := 38) rfl
                        have f546 := zf hS_s69 ha (k := 51) rfl
                        have f547 := zf hS_s69 ha (k := 52) rfl
                        exact j_iret hx hq rfl (by decide) (by decide) dX12_book_166 ⟨v520, rfl, rfl, hS_s69, (zFr_t (zFr_t (zFr_t (zFr_t (zFr_t (zFr_t (zFr_t (zFr_t (zFr_u zFr_rf e_s1 ha (by decide)) hF_s5 (by decide)) hF_s7 (by decide)) hF_s30 (by decide)) hF_s39 (by decide)) hF_s64 (by decide)) hF_s65 (by decide)) hF_s66 (by decide)) hF_s69 (by decide)), ⟨(by omega), by omega, by omega, by omega, by omega, by omega, by omega, by omega⟩⟩
        exact j_sub [1, 0] [(0, .ref a), (2, .int (zI 0))] rfl (c46_6 (2147483648 * 4) 0 s5 (by omega) (by omega) hS_s5 zFr_rf (by omega) (by omega) (by omega) (by omega) (by omega) (by omega) (by omega) (by omega) (by omega) (by omega) (by omega))

set_option maxHeartbeats 4000000 in
set_option maxRecDepth 20000 in
theorem c_X12_fault {E : zE} {l : Launch} (hst : l.stackTraces = false) (a : Nat) : Con E l yX12_fault cX12_fault 1 (some .int) { frames := 0, cells := 0, slots := 0, locals := 0 } (fun G s vs => vs = [.ref a] ∧ zGK G ∧ zSK G s ∧ (gT G a = 13)) (fun G s _ => pI (fun r G2 s2 => G2 = G ∧ zSK G s2 ∧ zFr [13] G s s2 ∧ ((-2147483648) ≤ r ∧ r ≤ 2147483647) ∧ s2 a 3 = s a 3 ∧ s2 a 4 = s a 4 ∧ s2 a 5 = s a 5 ∧ s2 a 7 = s a 7 ∧ s2 a 21 = s a 21 ∧ s2 a 22 = s a 22 ∧ s2 a 23 = s a 23 ∧ s2 a 24 = s a 24 ∧ s2 a 38 = s a 38 ∧ s2 a 51 = s a 51 ∧ s2 a 52 = s a 52)) := by
  refine Con.mk hst (by decide) (fun G s vs h => by rw [h.1]; exact Nat.le_of_ble_eq_true rfl) ?_
  rintro X G s0 vs ⟨rfl, hG, hS0, ha⟩ rfl hx hq
  show JJ X E 1 G s0 0 0 [(0, .ref a)] 0 []
  refine j_aload_n hx 0 dX12_fault_0 rfl ?_
  refine j_iconst hx dX12_fault_1 ?_
  refine p13_0 hx hG ha kf_RX12_3 dX12_fault_2 ?_
  obtain ⟨s1, e_s1⟩ : ∃ z, z = zU s0 a 0 0 := ⟨_, rfl⟩
  rw [← e_s1]
  have hS_s1 : zSK G s1 := by rw [e_s1]; exact zSK_F hS0 ha rfl rfl rfl (by omega)
  refine j_aload_n hx 0 dX12_fault_5 rfl ?_
  have f1 := zf hS0 ha (k := 8) rfl
  refine g13_8 hx hG ha kf_RX12_17 (v := (s0 a 8)) (by rw [e_s1, zU_at (Or.inr (by decide))]) dX12_fault_6 ?_
  have g2 : s1 a 3 = s0 a 3 := (by rw [e_s1, zU_at (Or.inr (by decide))])
  have f3 := zf hS0 ha (k := 3) rfl
  have g4 : s1 a 4 = s0 a 4 := (by rw [e_s1, zU_at (Or.inr (by decide))])
  have f5 := zf hS0 ha (k := 4) rfl
  have g6 : s1 a 5 = s0 a 5 := (by rw [e_s1, zU_at (Or.inr (by decide))])
  have f7 := zf hS0 ha (k := 5) rfl
  have g8 : s1 a 7 = s0 a 7 := (by rw [e_s1, zU_at (Or.inr (by decide))])
  have f9 := zf hS0 ha (k := 7) rfl
  have g10 : s1 a 21 = s0 a 21 := (by rw [e_s1, zU_at (Or.inr (by decide))])
  have f11 := zf hS0 ha (k := 21) rfl
  have g12 : s1 a 22 = s0 a 22 := (by rw [e_s1, zU_at (Or.inr (by decide))])
  have f13 := zf hS0 ha (k := 22) rfl
  have g14 : s1 a 23 = s0 a 23 := (by rw [e_s1, zU_at (Or.inr (by decide))])
  have f15 := zf hS0 ha (k := 23) rfl
  have g16 : s1 a 24 = s0 a 24 := (by rw [e_s1, zU_at (Or.inr (by decide))])
  have f17 := zf hS0 ha (k := 24) rfl
  have g18 : s1 a 38 = s0 a 38 := (by rw [e_s1, zU_at (Or.inr (by decide))])
  have f19 := zf hS0 ha (k := 38) rfl
  have g20 : s1 a 51 = s0 a 51 := (by rw [e_s1, zU_at (Or.inr (by decide))])
  have f21 := zf hS0 ha (k := 51) rfl
  have g22 : s1 a 52 = s0 a 52 := (by rw [e_s1, zU_at (Or.inr (by decide))])
  have f23 := zf hS0 ha (k := 52) rfl
  exact j_iret hx hq rfl (by decide) (by decide) dX12_fault_9 ⟨(s0 a 8), rfl, rfl, hS_s1, (zFr_u zFr_rf e_s1 ha (by decide)), ⟨(by omega), by omega, by omega, by omega, by omega, by omega, by omega, by omega, by omega, by omega, by omega, by omega⟩⟩

set_option maxHeartbeats 4000000 in
set_option maxRecDepth 20000 in
theorem c_X12_held {E : zE} {l : Launch} (hst : l.stackTraces = false) (a : Nat) (x1 : Int) : Con E l yX12_held cX12_held 2 (some .int) { frames := 0, cells := 0, slots := 0, locals := 0 } (fun G s vs => vs = [.ref a, .int (zI x1)] ∧ zGK G ∧ zSK G s ∧ (gT G a = 13) ∧ (0 ≤ x1 ∧ x1 ≤ 2)) (fun G s _ => pI (fun r G2 s2 => G2 = G ∧ s2 = s ∧ (0 ≤ r ∧ r ≤ 120) ∧ r = s (gP G a 27) (x1 + 480).toNat + s (gP G a 27) (x1 + 483).toNat)) := by
  refine Con.mk hst (by decide) (fun G s vs h => by rw [h.1]; exact Nat.le_of_ble_eq_true rfl) ?_
  rintro X G s0 vs ⟨rfl, hG, hS0, ha, hx1⟩ rfl hx hq
  show JJ X E 2 G s0 0 0 [(0, .ref a), (1, .int (zI x1))] 0 []
  refine j_aload_n hx 0 dX12_held_0 rfl ?_
  refine g13_27 hx hG ha kf_RX12_56 dX12_held_1 ?_
  refine j_sipush hx dX12_held_4 rfl ?_
  refine j_iload_n hx 1 dX12_held_7 rfl ?_
  refine j_iadd hx (r := x1 + 480) dX12_held_8 (by omega) ?_
  have f1 := zaQ (j := (x1 + 480).toNat) hS0 (zr (k := 27) (t2 := 84) hG ha rfl) (congrArg some (axS_2 (x1 + 480).toNat (by omega))) (zlen hG (zr (k := 27) (t2 := 84) hG ha rfl) (n := 515) rfl rfl) (show 0 ≤ x1 + 480 by omega) (by omega) rfl
  have c2 := zc_1 (j := (x1 + 480).toNat) hS0 (zr (k := 27) (t2 := 84) hG ha rfl) (zn hG (zr (k := 27) (t2 := 84) hG ha rfl) rfl) (by omega) (by omega)
  refine j_iald hx hG (zr (k := 27) (t2 := 84) hG ha rfl) (by decide) rfl (zlen hG (zr (k := 27) (t2 := 84) hG ha rfl) (n := 515) rfl rfl) (by omega) (by omega) (j := (x1 + 480).toNat) rfl rfl dX12_held_9 ?_
  refine j_aload_n hx 0 dX12_held_10 rfl ?_
  refine g13_27 hx hG ha kf_RX12_56 dX12_held_11 ?_
  refine j_sipush hx dX12_held_14 rfl ?_
  refine j_iload_n hx 1 dX12_held_17 rfl ?_
  refine j_iadd hx (r := x1 + 483) dX12_held_18 (by omega) ?_
  have f3 := zaQ (j := (x1 + 483).toNat) hS0 (zr (k := 27) (t2 := 84) hG ha rfl) (congrArg some (axS_2 (x1 + 483).toNat (by omega))) (zlen hG (zr (k := 27) (t2 := 84) hG ha rfl) (n := 515) rfl rfl) (show 0 ≤ x1 + 483 by omega) (by omega) rfl
  have c4 := zc_1 (j := (x1 + 483).toNat) hS0 (zr (k := 27) (t2 := 84) hG ha rfl) (zn hG (zr (k := 27) (t2 := 84) hG ha rfl) rfl) (by omega) (by omega)
  have c5 : (x1 + 480).toNat ≠ (x1 + 483).toNat → s0 (gP G a 27) (x1 + 480).toNat + s0 (gP G a 27) (x1 + 483).toNat ≤ zc (s0 (gP G a 27)) := fun e => zc_2 hS0 (zr (k := 27) (t2 := 84) hG ha rfl) (zn hG (zr (k := 27) (t2 := 84) hG ha rfl) rfl) (by omega) (by omega) (by omega) (by omega) e
  refine j_iald hx hG (zr (k := 27) (t2 := 84) hG ha rfl) (by decide) rfl (zlen hG (zr (k := 27) (t2 := 84) hG ha rfl) (n := 515) rfl rfl) (by omega) (by omega) (j := (x1 + 483).toNat) rfl rfl dX12_held_19 ?_
  refine j_iadd hx (r := (s0 (gP G a 27) (x1 + 480).toNat) + (s0 (gP G a 27) (x1 + 483).toNat)) dX12_held_20 (by omega) ?_
  exact j_iret hx hq rfl (by decide) (by decide) dX12_held_21 ⟨(s0 (gP G a 27) (x1 + 480).toNat) + (s0 (gP G a 27) (x1 + 483).toNat), rfl, rfl, rfl, ⟨(by omega), by omega⟩⟩

theorem lk_RX12_322 : LkV RX12 322 RX12 yX12_held cX12_held 2 (some .int) 1 := ⟨km_RX12_322, ki_yX12_held, ks_RX12_yX12_held, kn_RX12, kc_yX12_held, rfl, by decide +kernel, by decide +kernel, by decide +kernel⟩
set_option maxHeartbeats 4000000 in
set_option maxRecDepth 20000 in
theorem c_X12_isOut {E : zE} {l : Launch} (hst : l.stackTraces = false) (a : Nat) (x1 : Int) : Con E l yX12_isOut cX12_isOut 2 (some .boolean) { frames := 1, cells := 0, slots := 0, locals := 21 } (fun G s vs => vs = [.ref a, .int (zI x1)] ∧ zGK G ∧ zSK G s ∧ (gT G a = 13) ∧ (0 ≤ x1 ∧ x1 ≤ 2)) (fun G s _ => pI (fun r G2 s2 => G2 = G ∧ s2 = s ∧ (0 ≤ r ∧ r ≤ 1) ∧ ((r = 1 → s (gP G a 27) (x1 + 480).toNat + s (gP G a 27) (x1 + 483).toNat = 0) ∧ (r = 0 → 1 ≤ s (gP G a 27) (x1 + 480).toNat + s (gP G a 27) (x1 + 483).toNat)))) := by
  refine Con.mk hst (by decide) (fun G s vs h => by rw [h.1]; exact Nat.le_of_ble_eq_true rfl) ?_
  rintro X G s0 vs ⟨rfl, hG, hS0, ha, hx1⟩ rfl hx hq
  show JJ X E 2 G s0 0 0 [(0, .ref a), (1, .int (zI x1))] 0 []
  refine j_aload_n hx 0 dX12_isOut_0 rfl ?_
  refine j_iload_n hx 1 dX12_isOut_1 rfl ?_
  refine j_callV hx hG (c_X12_held hst a x1) lk_RX12_322 ha (by decide) rfl rfl rfl rfl [.int (zI x1)] ⟨rfl, hG, hS0, ha, (by omega)⟩ rfl rfl ⟨by decide, by decide⟩ ⟨by decide, by decide⟩ (k2 := 0) (n2 := 0) rfl rfl (Nat.le_of_ble_eq_true rfl) dX12_isOut_2 (kIP (fun v1 q2 => ?_))
  refine j_if_ne hx 12 dX12_isOut_5 rfl (by omega) (fun h3 => ?_) (fun h3 => ?_)
  · skip
    refine j_iconst hx dX12_isOut_12 ?_
    exact j_zret hx hq rfl (by decide) (by decide) dX12_isOut_13 (by omega) ⟨0, rfl, rfl, rfl, ⟨(by omega), by omega⟩⟩
  · skip
    refine j_iconst hx dX12_isOut_8 ?_
    refine j_goto hx 13 dX12_isOut_9 rfl ?_
    exact j_zret hx hq rfl (by decide) (by decide) dX12_isOut_13 (by omega) ⟨1, rfl, rfl, rfl, ⟨(by omega), by omega⟩⟩

theorem lk_RX12_325 : LkV RX12 325 RX12 yX12_isOut cX12_isOut 2 (some .boolean) 1 := ⟨km_RX12_325, ki_yX12_isOut, ks_RX12_yX12_isOut, kn_RX12, kc_yX12_isOut, rfl, by decide +kernel, by decide +kernel, by decide +kernel⟩
set_option maxHeartbeats 4000000 in
set_option maxRecDepth 20000 in
theorem c_X12_isOver {E : zE} {l : Launch} (hst : l.stackTraces = false) (a : Nat) : Con E l yX12_isOver cX12_isOver 3 (some .boolean) { frames := 2, cells := 0, slots := 0, locals := 42 } (fun G s vs => vs = [.ref a] ∧ zGK G ∧ zSK G s ∧ (gT G a = 13)) (fun G s _ => pI (fun r G2 s2 => G2 = G ∧ s2 = s ∧ (0 ≤ r ∧ r ≤ 1))) := by
  refine Con.mk hst (by decide) (fun G s vs h => by rw [h.1]; exact Nat.le_of_ble_eq_true rfl) ?_
  rintro X G s0 vs ⟨rfl, hG, hS0, ha⟩ rfl hx hq
  show JJ X E 3 G s0 0 0 [(0, .ref a)] 0 []
  refine j_iconst hx dX12_isOver_0 ?_
  refine j_istore_n hx [(1, .int (zI 0)), (0, .ref a)] dX12_isOver_1 (by decide) rfl ?_
  refine j_iconst hx dX12_isOver_2 ?_
  refine j_istore_n hx [(2, .int (zI 0)), (1, .int (zI 0)), (0, .ref a)] dX12_isOver_3 (by decide) rfl ?_
  have c4_1 : ∀ (m_c4_1 : Nat) (v1 : Int) (v2 : Int), 2147483648 - v2 < m_c4_1 → ((-2147483648) ≤ v1 ∧ v1 ≤ 2147483647) → (0 ≤ v2 ∧ v2 ≤ 3) → JJ X E 3 G s0 0 0 [(0, .ref a), (1, .int (zI v1)), (2, .int (zI v2))] 4 [] := by
    intro m_c4_1
    induction m_c4_1 with
    | zero => intro v1 v2 hm_c4_1 fA2 fA3; exfalso; omega
    | succ m_c4_1 ih_c4_1 => 
      intro v1 v2 hm_c4_1 fA2 fA3
      refine j_iload_n hx 2 dX12_isOver_4 rfl ?_
      refine j_aload_n hx 0 dX12_isOver_5 rfl ?_
      have f3 := zf hS0 ha (k := 24) rfl
      refine g13_24 hx hG ha kf_RX12_189 rfl dX12_isOver_6 ?_
      refine j_icmp_ge hx 34 dX12_isOver_9 rfl (by omega) (by omega) (fun h4 => ?_) (fun h4 => ?_)
      · skip
        refine j_iload_n hx 1 dX12_isOver_34 rfl ?_
        refine j_iconst hx dX12_isOver_35 ?_
        refine j_icmp_gt hx 43 dX12_isOver_36 rfl (by omega) ⟨by decide, by decide⟩ (fun h5 => ?_) (fun h5 => ?_)
        · skip
          refine j_iconst hx dX12_isOver_43 ?_
          exact j_zret hx hq rfl (by decide) (by decide) dX12_isOver_44 (by omega) ⟨0, rfl, rfl, rfl, (by omega)⟩
        · skip
          refine j_iconst hx dX12_isOver_39 ?_
          refine j_goto hx 44 dX12_isOver_40 rfl ?_
          exact j_zret hx hq rfl (by decide) (by decide) dX12_isOver_44 (by omega) ⟨1, rfl, rfl, rfl, (by omega)⟩
      · skip
        refine j_iload_n hx 1 dX12_isOver_12 rfl ?_
        refine j_aload_n hx 0 dX12_isOver_13 rfl ?_
        refine j_iload_n hx 2 dX12_isOver_14 rfl ?_
        refine j_callV hx hG (c_X12_isOut hst a v2) lk_RX12_325 ha (by decide) rfl rfl rfl rfl [.int (zI v2)] ⟨rfl, hG, hS0, ha, (by omega)⟩ rfl rfl ⟨by decide, by decide⟩ ⟨by decide, by decide⟩ (k2 := 0) (n2 := 0) rfl rfl (Nat.le_of_ble_eq_true rfl) dX12_isOver_15 (kIP (fun v6 q7 => ?_))
        have c26_4 : ∀ (v8 : Int), (0 ≤ v8 ∧ v8 ≤ 1) → JJ X E 3 G s0 0 0 [(0, .ref a), (2, .int (zI v2))] 26 [.int (zI v8), .int (zI v1)] := by
          intro v8 fA5
          refine j_iadd hx (r := v1 + v8) dX12_isOver_26 rfl ?_
          refine j_norm (fun v9 f10 f11 f12 => ?_)
          refine j_istore_n hx [(1, .int (zI v9)), (0, .ref a), (2, .int (zI v2))] dX12_isOver_27 (by decide) rfl ?_
          refine j_iinc hx 2 [(2, .int (zI (v2 + 1))), (1, .int (zI v9)), (0, .ref a)] dX12_isOver_28 rfl (by omega) (by decide) rfl ?_
          refine j_goto hx 4 dX12_isOver_31 rfl ?_
          exact j_sub [2, 1, 0] [(0, .ref a), (1, .int (zI v9)), (2, .int (zI (v2 + 1)))] rfl (ih_c4_1 v9 (v2 + 1) (by omega) (by omega) (by omega))
        refine j_if_eq hx 25 dX12_isOver_18 rfl (by omega) (fun h13 => ?_) (fun h13 => ?_)
        · skip
          refine j_iconst hx dX12_isOver_25 ?_
          exact j_sub [0, 2] [(0, .ref a), (2, .int (zI v2))] rfl (c26_4 1 (by omega))
        · skip
          refine j_iconst hx dX12_isOver_21 ?_
          refine j_goto hx 26 dX12_isOver_22 rfl ?_
          exact j_sub [0, 2] [(0, .ref a), (2, .int (zI v2))] rfl (c26_4 0 (by omega))
  exact j_sub [2, 1, 0] [(0, .ref a), (1, .int (zI 0)), (2, .int (zI 0))] rfl (c4_1 (2147483648 * 4) 0 0 (by omega) (by omega) (by omega))

set_option maxHeartbeats 4000000 in
set_option maxRecDepth 20000 in
theorem c_X12_next {E : zE} {l : Launch} (hst : l.stackTraces = false) (a : Nat) (x1 : Int) : Con E l yX12_next cX12_next 3 (some .int) { frames := 2, cells := 0, slots := 0, locals := 42 } (fun G s vs => vs = [.ref a, .int (zI x1)] ∧ zGK G ∧ zSK G s ∧ (gT G a = 13) ∧ ((-1) ≤ x1 ∧ x1 ≤ 2)) (fun G s _ => pI (fun r G2 s2 => G2 = G ∧ s2 = s ∧ ((-1) ≤ r ∧ r ≤ 2) ∧ (r = -1 ∨ (0 ≤ r ∧ r < s a 24 ∧ 1 ≤ s (gP G a 27) (r + 480).toNat + s (gP G a 27) (r + 483).toNat)))) := by
  refine Con.mk hst (by decide) (fun G s vs h => by rw [h.1]; exact Nat.le_of_ble_eq_true rfl) ?_
  rintro X G s0 vs ⟨rfl, hG, hS0, ha, hx1⟩ rfl hx hq
  show JJ X E 3 G s0 0 0 [(0, .ref a), (1, .int (zI x1))] 0 []
  refine j_iconst hx dX12_next_0 ?_
  refine j_istore_n hx [(2, .int (zI 1)), (0, .ref a), (1, .int (zI x1))] dX12_next_1 (by decide) rfl ?_
  have c2_1 : ∀ (m_c2_1 : Nat) (v1 : Int), 2147483648 - v1 < m_c2_1 → (1 ≤ v1 ∧ v1 ≤ 4) → JJ X E 3 G s0 0 0 [(0, .ref a), (1, .int (zI x1)), (2, .int (zI v1))] 2 [] := by
    intro m_c2_1
    induction m_c2_1 with
    | zero => intro v1 hm_c2_1 fA2; exfalso; omega
    | succ m_c2_1 ih_c2_1 => 
      intro v1 hm_c2_1 fA2
      refine j_iload_n hx 2 dX12_next_2 rfl ?_
      refine j_aload_n hx 0 dX12_next_3 rfl ?_
      have f2 := zf hS0 ha (k := 24) rfl
      refine g13_24 hx hG ha kf_RX12_189 rfl dX12_next_4 ?_
      refine j_icmp_gt hx 40 dX12_next_7 rfl (by omega) (by omega) (fun h3 => ?_) (fun h3 => ?_)
      · skip
        refine j_iconst hx dX12_next_40 ?_
        exact j_iret hx hq rfl (by decide) (by decide) dX12_next_41 ⟨(-1), rfl, rfl, rfl, ⟨(by omega), by omega⟩⟩
      · skip
        refine j_aload_n hx 0 dX12_next_10 rfl ?_
        refine j_iload_n hx 1 dX12_next_11 rfl ?_
        refine j_iload_n hx 2 dX12_next_12 rfl ?_
        refine j_iadd hx (r := x1 + v1) dX12_next_13 rfl ?_
        refine j_aload_n hx 0 dX12_next_14 rfl ?_
        refine g13_24 hx hG ha kf_RX12_189 rfl dX12_next_15 ?_
        refine j_irem hx dX12_next_18 (by omega) (by omega) (by omega) (fun v4 f5 f6 f7 f8 => ?_)
        refine j_callV hx hG (c_X12_isOut hst a v4) lk_RX12_325 ha (by decide) rfl rfl rfl rfl [.int (zI v4)] ⟨rfl, hG, hS0, ha, (by omega)⟩ rfl rfl ⟨by decide, by decide⟩ ⟨by decide, by decide⟩ (k2 := 0) (n2 := 0) rfl rfl (Nat.le_of_ble_eq_true rfl) dX12_next_19 (kIP (fun v10 q11 => ?_))
        refine j_if_ne hx 34 dX12_next_22 rfl (by omega) (fun h12 => ?_) (fun h12 => ?_)
        · skip
          refine j_iinc hx 2 [(2, .int (zI (v1 + 1))), (0, .ref a), (1, .int (zI x1))] dX12_next_34 rfl (by omega) (by decide) rfl ?_
          refine j_goto hx 2 dX12_next_37 rfl ?_
          exact j_sub [1, 2, 0] [(0, .ref a), (1, .int (zI x1)), (2, .int (zI (v1 + 1)))] rfl (ih_c2_1 (v1 + 1) (by omega) (by omega))
        · skip
          refine j_iload_n hx 1 dX12_next_25 rfl ?_
          refine j_iload_n hx 2 dX12_next_26 rfl ?_
          refine j_iadd hx (r := x1 + v1) dX12_next_27 rfl ?_
          refine j_aload_n hx 0 dX12_next_28 rfl ?_
          refine g13_24 hx hG ha kf_RX12_189 rfl dX12_next_29 ?_
          refine j_irem hx dX12_next_32 (by omega) (by omega) (by omega) (fun v13 f14 f15 f16 f17 => ?_)
          obtain rfl : v4 = v13 := by omega
          exact j_iret hx hq rfl (by decide) (by decide) dX12_next_33 ⟨v4, rfl, rfl, rfl, ⟨(by omega), by omega⟩⟩
  exact j_sub [1, 2, 0] [(0, .ref a), (1, .int (zI x1)), (2, .int (zI 1))] rfl (c2_1 (2147483648 * 4) 1 (by omega) (by omega))

theorem lk_RX12_328 : LkV RX12 328 RX12 yX12_isOver cX12_isOver 3 (some .boolean) 0 := ⟨km_RX12_328, ki_yX12_isOver, ks_RX12_yX12_isOver, kn_RX12, kc_yX12_isOver, rfl, by decide +kernel, by decide +kernel, by decide +kernel⟩
theorem lk_RX12_331 : LkV RX12 331 RX12 yX12_next cX12_next 3 (some .int) 1 := ⟨km_RX12_331, ki_yX12_next, ks_RX12_yX12_next, kn_RX12, kc_yX12_next, rfl, by decide +kernel, by decide +kernel, by decide +kernel⟩
set_option maxHeartbeats 4000000 in
set_option maxRecDepth 20000 in
theorem c_X12_whose {E : zE} {l : Launch} (hst : l.stackTraces = false) (a : Nat) : Con E l yX12_whose cX12_whose 1 (some .int) { frames := 3, cells := 0, slots := 0, locals := 64 } (fun G s vs => vs = [.ref a] ∧ zGK G ∧ zSK G s ∧ (gT G a = 13)) (fun G s _ => pI (fun r G2 s2 => G2 = G ∧ s2 = s ∧ ((-1) ≤ r ∧ r ≤ 2) ∧ (r = -1 ∨ (0 ≤ r ∧ r < s a 24 ∧ 1 ≤ s (gP G a 27) (r + 480).toNat + s (gP G a 27) (r + 483).toNat)))) := by
  refine Con.mk hst (by decide) (fun G s vs h => by rw [h.1]; exact Nat.le_of_ble_eq_true rfl) ?_
  rintro X G s0 vs ⟨rfl, hG, hS0, ha⟩ rfl hx hq
  show JJ X E 1 G s0 0 0 [(0, .ref a)] 0 []
  refine j_aload_n hx 0 dX12_whose_0 rfl ?_
  refine j_callV hx hG (c_X12_isOver hst a) lk_RX12_328 ha (by decide) rfl rfl rfl rfl [] ⟨rfl, hG, hS0, ha⟩ rfl rfl ⟨by decide, by decide⟩ ⟨by decide, by decide⟩ (k2 := 0) (n2 := 0) rfl rfl (Nat.le_of_ble_eq_true rfl) dX12_whose_1 (kIP (fun v1 q2 => ?_))
  refine j_if_eq hx 11 dX12_whose_4 rfl (by omega) (fun h3 => ?_) (fun h3 => ?_)
  · skip
    refine j_aload_n hx 0 dX12_whose_11 rfl ?_
    refine j_aload_n hx 0 dX12_whose_12 rfl ?_
    refine g13_27 hx hG ha kf_RX12_56 dX12_whose_13 ?_
    refine j_sipush hx dX12_whose_16 rfl ?_
    have f4 := zaQ (j := 487) hS0 (zr (k := 27) (t2 := 84) hG ha rfl) (congrArg some (axS_3 487 (by omega))) (zlen hG (zr (k := 27) (t2 := 84) hG ha rfl) (n := 515) rfl rfl) (show 0 ≤ 487 by omega) (by omega) rfl
    refine j_iald hx hG (zr (k := 27) (t2 := 84) hG ha rfl) (by decide) rfl (zlen hG (zr (k := 27) (t2 := 84) hG ha rfl) (n := 515) rfl rfl) (by omega) (by omega) (j := 487) rfl rfl dX12_whose_19 ?_
    refine j_callV hx hG (c_X12_next hst a ((s0 (gP G a 27) 487))) lk_RX12_331 ha (by decide) rfl rfl rfl rfl [.int (zI ((s0 (gP G a 27) 487)))] ⟨rfl, hG, hS0, ha, (by omega)⟩ rfl rfl ⟨by decide, by decide⟩ ⟨by decide, by decide⟩ (k2 := 0) (n2 := 0) rfl rfl (Nat.le_of_ble_eq_true rfl) dX12_whose_20 (kIP (fun v5 q6 => ?_))
    have f7 := zf hS0 ha (k := 24) rfl
    exact j_iret hx hq rfl (by decide) (by decide) dX12_whose_23 ⟨v5, rfl, rfl, rfl, ⟨(by omega), by omega⟩⟩
  · skip
    refine j_iconst hx dX12_whose_7 ?_
    refine j_goto hx 23 dX12_whose_8 rfl ?_
    have f8 := zf hS0 ha (k := 24) rfl
    exact j_iret hx hq rfl (by decide) (by decide) dX12_whose_23 ⟨(-1), rfl, rfl, rfl, ⟨(by omega), by omega⟩⟩

theorem lk_RX12_336 : LkV RX12 336 RX12 yX12_whose cX12_whose 1 (some .int) 0 := ⟨km_RX12_336, ki_yX12_whose, ks_RX12_yX12_whose, kn_RX12, kc_yX12_whose, rfl, by decide +kernel, by decide +kernel, by decide +kernel⟩
set_option maxHeartbeats 4000000 in
set_option maxRecDepth 20000 in
theorem c_X12_told {E : zE} {l : Launch} (hst : l.stackTraces = false) (a : Nat) (x1 : Int) : Con E l yX12_told cX12_told 2 (some .int) { frames := 4, cells := 0, slots := 0, locals := 84 } (fun G s vs => vs = [.ref a, .int (zI x1)] ∧ zGK G ∧ zSK G s ∧ (gT G a = 13) ∧ ((-2147483648) ≤ x1 ∧ x1 ≤ 2147483647)) (fun G s _ => pI (fun r G2 s2 => G2 = G ∧ zSK G s2 ∧ zFr [13, 71] G s s2 ∧ ((-2147483648) ≤ r ∧ r ≤ 2147483647) ∧ s2 a 3 = s a 3 ∧ s2 a 4 = s a 4 ∧ s2 a 5 = s a 5 ∧ s2 a 7 = s a 7 ∧ s2 a 21 = s a 21 ∧ s2 a 22 = s a 22 ∧ s2 a 23 = s a 23 ∧ s2 a 24 = s a 24 ∧ s2 a 38 = s a 38 ∧ s2 a 51 = s a 51 ∧ s2 a 52 = s a 52)) := by
  refine Con.mk hst (by decide) (fun G s vs h => by rw [h.1]; exact Nat.le_of_ble_eq_true rfl) ?_
  rintro X G s0 vs ⟨rfl, hG, hS0, ha, hx1⟩ rfl hx hq
  show JJ X E 2 G s0 0 0 [(0, .ref a), (1, .int (zI x1))] 0 []
  refine j_aload_n hx 0 dX12_told_0 rfl ?_
  refine j_iconst hx dX12_told_1 ?_
  refine p13_0 hx hG ha kf_RX12_3 dX12_told_2 ?_
  obtain ⟨s1, e_s1⟩ : ∃ z, z = zU s0 a 0 0 := ⟨_, rfl⟩
  rw [← e_s1]
  have hS_s1 : zSK G s1 := by rw [e_s1]; exact zSK_F hS0 ha rfl rfl rfl (by omega)
  refine j_aload_n hx 0 dX12_told_5 rfl ?_
  refine j_iload_n hx 1 dX12_told_6 rfl ?_
  refine j_iconst hx dX12_told_7 ?_
  refine j_bipush hx dX12_told_8 rfl ?_
  refine j_callS hx (c_X12_within hst x1 0 8) lk_RX12_314 [.int (zI x1), .int (zI 0), .int (zI 8)] ⟨rfl, hG, hS_s1, (by omega), (by omega), (by omega)⟩ rfl rfl ⟨by decide, by decide⟩ ⟨by decide, by decide⟩ (k2 := 0) (n2 := 0) rfl rfl (Nat.le_of_ble_eq_true rfl) dX12_told_10 (kIP (fun v1 q2 => ?_))
  refine j_iconst hx dX12_told_13 ?_
  refine j_iconst hx dX12_told_14 ?_
  rcases (show v1 = 0 ∨ v1 = 1 by omega) with rfl | rfl
  · skip
    have g4 : s1 a 0 = 0 := (by rw [e_s1, zU_eq])
    have g5 : s1 a 3 = s0 a 3 := (by rw [e_s1, zU_at (Or.inr (by decide))])
    have f6 := zf hS0 ha (k := 3) rfl
    have g7 : s1 a 4 = s0 a 4 := (by rw [e_s1, zU_at (Or.inr (by decide))])
    have f8 := zf hS0 ha (k := 4) rfl
    have g9 : s1 a 5 = s0 a 5 := (by rw [e_s1, zU_at (Or.inr (by decide))])
    have f10 := zf hS0 ha (k := 5) rfl
    have g11 : s1 a 7 = s0 a 7 := (by rw [e_s1, zU_at (Or.inr (by decide))])
    have f12 := zf hS0 ha (k := 7) rfl
    have g13 : s1 a 21 = s0 a 21 := (by rw [e_s1, zU_at (Or.inr (by decide))])
    have f14 := zf hS0 ha (k := 21) rfl
    have g15 : s1 a 22 = s0 a 22 := (by rw [e_s1, zU_at (Or.inr (by decide))])
    have f16 := zf hS0 ha (k := 22) rfl
    have g17 : s1 a 23 = s0 a 23 := (by rw [e_s1, zU_at (Or.inr (by decide))])
    have f18 := zf hS0 ha (k := 23) rfl
    have g19 : s1 a 24 = s0 a 24 := (by rw [e_s1, zU_at (Or.inr (by decide))])
    have f20 := zf hS0 ha (k := 24) rfl
    have g21 : s1 a 38 = s0 a 38 := (by rw [e_s1, zU_at (Or.inr (by decide))])
    have f22 := zf hS0 ha (k := 38) rfl
    have g23 : s1 a 51 = s0 a 51 := (by rw [e_s1, zU_at (Or.inr (by decide))])
    have f24 := zf hS0 ha (k := 51) rfl
    have g25 : s1 a 52 = s0 a 52 := (by rw [e_s1, zU_at (Or.inr (by decide))])
    have f26 := zf hS0 ha (k := 52) rfl
    refine j_callV hx hG (c_X12_may_f hst a 0 1 1) lk_RX12_240 ha (by decide) rfl rfl rfl rfl [.int (zI 0), .int (zI 1), .int (zI 1)] ⟨rfl, hG, hS_s1, ha, (by omega), (by omega), (by omega), (((by rw [e_s1, zU_eq]) : s1 a 0 = 0).trans (by omega))⟩ rfl rfl ⟨by decide, by decide⟩ ⟨by decide, by decide⟩ (k2 := 0) (n2 := 0) rfl rfl (Nat.le_of_ble_eq_true rfl) dX12_told_15 (kIM (fun v27 s2 hS_s2 hF_s2 q28 => ?_))
    refine j_if_ne hx 23 dX12_told_18 rfl (by omega) (fun h29 => absurd h29 (by omega)) (fun h29 => ?_)
    refine j_iconst hx dX12_told_21 ?_
    have f30 := zf hS_s2 ha (k := 3) rfl
    have f31 := zf hS_s2 ha (k := 4) rfl
    have f32 := zf hS_s2 ha (k := 5) rfl
    have f33 := zf hS_s2 ha (k := 7) rfl
    have f34 := zf hS_s2 ha (k := 21) rfl
    have f35 := zf hS_s2 ha (k := 22) rfl
    have f36 := zf hS_s2 ha (k := 23) rfl
    have f37 := zf hS_s2 ha (k := 24) rfl
    have f38 := zf hS_s2 ha (k := 38) rfl
    have f39 := zf hS_s2 ha (k := 51) rfl
    have f40 := zf hS_s2 ha (k := 52) rfl
    exact j_iret hx hq rfl (by decide) (by decide) dX12_told_22 ⟨0, rfl, rfl, hS_s2, (zFr_t (zFr_u zFr_rf e_s1 ha (by decide)) hF_s2 (by decide)), ⟨(by omega), by omega, by omega, by omega, by omega, by omega, by omega, by omega, by omega, by omega, by omega, by omega⟩⟩
  · skip
    have g41 : s1 a 0 = 0 := (by rw [e_s1, zU_eq])
    refine j_callV hx hG (c_X12_may_t hst a 1 1 1) lk_RX12_240 ha (by decide) rfl rfl rfl rfl [.int (zI 1), .int (zI 1), .int (zI 1)] ⟨rfl, hG, hS_s1, ha, (by omega), (by omega), (by omega), (((by rw [e_s1, zU_eq]) : s1 a 0 = 0).trans (by omega))⟩ rfl rfl ⟨by decide, by decide⟩ ⟨by decide, by decide⟩ (k2 := 0) (n2 := 0) rfl rfl (Nat.le_of_ble_eq_true rfl) dX12_told_15 (kIP (fun v42 q43 => ?_))
    refine j_if_ne hx 23 dX12_told_18 rfl (by omega) (fun h44 => ?_) (fun h44 => absurd h44 (by omega))
    refine j_iload_n hx 1 dX12_told_23 rfl ?_
    refine j_iconst hx dX12_told_24 ?_
    refine j_icmp_ge hx 60 dX12_told_25 rfl (by omega) ⟨by decide, by decide⟩ (fun h45 => ?_) (fun h45 => ?_)
    · skip
      refine j_iload_n hx 1 dX12_told_60 rfl ?_
      refine j_iconst hx dX12_told_61 ?_
      refine j_icmp_ge hx 86 dX12_told_62 rfl (by omega) ⟨by decide, by decide⟩ (fun h46 => ?_) (fun h46 => ?_)
      · skip
        refine j_iload_n hx 1 dX12_told_86 rfl ?_
        refine j_bipush hx dX12_told_87 rfl ?_
        refine j_icmp_ge hx 107 dX12_told_89 rfl (by omega) ⟨by decide, by decide⟩ (fun h47 => ?_) (fun h47 => ?_)
        · skip
          refine j_aload_n hx 0 dX12_told_107 rfl ?_
          have f48 := zf hS0 ha (k := 26) rfl
          refine g13_26 hx hG ha kf_RX12_195 (v := (s0 a 26)) (by rw [e_s1, zU_at (Or.inr (by decide))]) dX12_told_108 ?_
          have g49 : s1 a 3 = s0 a 3 := (by rw [e_s1, zU_at (Or.inr (by decide))])
          have f50 := zf hS0 ha (k := 3) rfl
          have g51 : s1 a 4 = s0 a 4 := (by rw [e_s1, zU_at (Or.inr (by decide))])
          have f52 := zf hS0 ha (k := 4) rfl
          have g53 : s1 a 5 = s0 a 5 := (by rw [e_s1, zU_at (Or.inr (by decide))])
          have f54 := zf hS0 ha (k := 5) rfl
          have g55 : s1 a 7 = s0 a 7 := (by rw [e_s1, zU_at (Or.inr (by decide))])
          have f56 := zf hS0 ha (k := 7) rfl
          have g57 : s1 a 21 = s0 a 21 := (by rw [e_s1, zU_at (Or.inr (by decide))])
          have f58 := zf hS0 ha (k := 21) rfl
          have g59 : s1 a 22 = s0 a 22 := (by rw [e_s1, zU_at (Or.inr (by decide))])
          have f60 := zf hS0 ha (k := 22) rfl
          have g61 : s1 a 23 = s0 a 23 := (by rw [e_s1, zU_at (Or.inr (by decide))])
          have f62 := zf hS0 ha (k := 23) rfl
          have g63 : s1 a 24 = s0 a 24 := (by rw [e_s1, zU_at (Or.inr (by decide))])
          have f64 := zf hS0 ha (k := 24) rfl
          have g65 : s1 a 38 = s0 a 38 := (by rw [e_s1, zU_at (Or.inr (by decide))])
          have f66 := zf hS0 ha (k := 38) rfl
          have g67 : s1 a 51 = s0 a 51 := (by rw [e_s1, zU_at (Or.inr (by decide))])
          have f68 := zf hS0 ha (k := 51) rfl
          have g69 : s1 a 52 = s0 a 52 := (by rw [e_s1, zU_at (Or.inr (by decide))])
          have f70 := zf hS0 ha (k := 52) rfl
          exact j_iret hx hq rfl (by decide) (by decide) dX12_told_111 ⟨(s0 a 26), rfl, rfl, hS_s1, (zFr_u zFr_rf e_s1 ha (by decide)), ⟨(by omega), by omega, by omega, by omega, by omega, by omega, by omega, by omega, by omega, by omega, by omega, by omega⟩⟩
        · skip
          refine j_aload_n hx 0 dX12_told_92 rfl ?_
          refine g13_27 hx hG ha kf_RX12_56 dX12_told_93 ?_
          refine j_sipush hx dX12_told_96 rfl ?_
          refine j_iload_n hx 1 dX12_told_99 rfl ?_
          refine j_iadd hx (r := x1 + 491) dX12_told_100 (by omega) ?_
          refine j_iconst hx dX12_told_101 ?_
          refine j_isub hx (r := x1 + 486) dX12_told_102 (by omega) ?_
          have f71 := zaQ (j := (x1 + 486).toNat) hS0 (zr (k := 27) (t2 := 84) hG ha rfl) (congrArg some (axS_7 (x1 + 486).toNat (by omega))) (zlen hG (zr (k := 27) (t2 := 84) hG ha rfl) (n := 515) rfl rfl) (show 0 ≤ x1 + 486 by omega) (by omega) rfl
          refine j_iald hx hG (zr (k := 27) (t2 := 84) hG ha rfl) (by decide) rfl (zlen hG (zr (k := 27) (t2 := 84) hG ha rfl) (n := 515) rfl rfl) (by omega) (by omega) (j := (x1 + 486).toNat) rfl (v := (s0 (gP G a 27) (x1 + 486).toNat)) (by rw [e_s1, zU_at (Or.inl (zne ha (zr (k := 27) (t2 := 84) hG ha rfl) (by decide)))]) dX12_told_103 ?_
          refine j_goto hx 111 dX12_told_104 rfl ?_
          have g72 : s1 a 3 = s0 a 3 := (by rw [e_s1, zU_at (Or.inr (by decide))])
          have f73 := zf hS0 ha (k := 3) rfl
          have g74 : s1 a 4 = s0 a 4 := (by rw [e_s1, zU_at (Or.inr (by decide))])
          have f75 := zf hS0 ha (k := 4) rfl
          have g76 : s1 a 5 = s0 a 5 := (by rw [e_s1, zU_at (Or.inr (by decide))])
          have f77 := zf hS0 ha (k := 5) rfl
          have g78 : s1 a 7 = s0 a 7 := (by rw [e_s1, zU_at (Or.inr (by decide))])
          have f79 := zf hS0 ha (k := 7) rfl
          have g80 : s1 a 21 = s0 a 21 := (by rw [e_s1, zU_at (Or.inr (by decide))])
          have f81 := zf hS0 ha (k := 21) rfl
          have g82 : s1 a 22 = s0 a 22 := (by rw [e_s1, zU_at (Or.inr (by decide))])
          have f83 := zf hS0 ha (k := 22) rfl
          have g84 : s1 a 23 = s0 a 23 := (by rw [e_s1, zU_at (Or.inr (by decide))])
          have f85 := zf hS0 ha (k := 23) rfl
          have g86 : s1 a 24 = s0 a 24 := (by rw [e_s1, zU_at (Or.inr (by decide))])
          have f87 := zf hS0 ha (k := 24) rfl
          have g88 : s1 a 38 = s0 a 38 := (by rw [e_s1, zU_at (Or.inr (by decide))])
          have f89 := zf hS0 ha (k := 38) rfl
          have g90 : s1 a 51 = s0 a 51 := (by rw [e_s1, zU_at (Or.inr (by decide))])
          have f91 := zf hS0 ha (k := 51) rfl
          have g92 : s1 a 52 = s0 a 52 := (by rw [e_s1, zU_at (Or.inr (by decide))])
          have f93 := zf hS0 ha (k := 52) rfl
          exact j_iret hx hq rfl (by decide) (by decide) dX12_told_111 ⟨(s0 (gP G a 27) (x1 + 486).toNat), rfl, rfl, hS_s1, (zFr_u zFr_rf e_s1 ha (by decide)), ⟨(by omega), by omega, by omega, by omega, by omega, by omega, by omega, by omega, by omega, by omega, by omega, by omega⟩⟩
      · skip
        refine j_iload_n hx 1 dX12_told_65 rfl ?_
        refine j_iconst hx dX12_told_66 ?_
        refine j_icmp_ne hx 77 dX12_told_67 rfl (by omega) ⟨by decide, by decide⟩ (fun h94 => ?_) (fun h94 => ?_)
        · skip
          refine j_aload_n hx 0 dX12_told_77 rfl ?_
          refine g13_27 hx hG ha kf_RX12_56 dX12_told_78 ?_
          refine j_sipush hx dX12_told_81 rfl ?_
          have f95 := zaQ (j := 486) hS0 (zr (k := 27) (t2 := 84) hG ha rfl) (congrArg some (axS_2 486 (by omega))) (zlen hG (zr (k := 27) (t2 := 84) hG ha rfl) (n := 515) rfl rfl) (show 0 ≤ 486 by omega) (by omega) rfl
          have c96 := zc_1 (j := 486) hS0 (zr (k := 27) (t2 := 84) hG ha rfl) (zn hG (zr (k := 27) (t2 := 84) hG ha rfl) rfl) (by omega) (by omega)
          refine j_iald hx hG (zr (k := 27) (t2 := 84) hG ha rfl) (by decide) rfl (zlen hG (zr (k := 27) (t2 := 84) hG ha rfl) (n := 515) rfl rfl) (by omega) (by omega) (j := 486) rfl (v := (s0 (gP G a 27) 486)) (by rw [e_s1, zU_at (Or.inl (zne ha (zr (k := 27) (t2 := 84) hG ha rfl) (by decide)))]) dX12_told_84 ?_
          have g97 : s1 a 3 = s0 a 3 := (by rw [e_s1, zU_at (Or.inr (by decide))])
          have f98 := zf hS0 ha (k := 3) rfl
          have g99 : s1 a 4 = s0 a 4 := (by rw [e_s1, zU_at (Or.inr (by decide))])
          have f100 := zf hS0 ha (k := 4) rfl
          have g101 : s1 a 5 = s0 a 5 := (by rw [e_s1, zU_at (Or.inr (by decide))])
          have f102 := zf hS0 ha (k := 5) rfl
          have g103 : s1 a 7 = s0 a 7 := (by rw [e_s1, zU_at (Or.inr (by decide))])
          have f104 := zf hS0 ha (k := 7) rfl
          have g105 : s1 a 21 = s0 a 21 := (by rw [e_s1, zU_at (Or.inr (by decide))])
          have f106 := zf hS0 ha (k := 21) rfl
          have g107 : s1 a 22 = s0 a 22 := (by rw [e_s1, zU_at (Or.inr (by decide))])
          have f108 := zf hS0 ha (k := 22) rfl
          have g109 : s1 a 23 = s0 a 23 := (by rw [e_s1, zU_at (Or.inr (by decide))])
          have f110 := zf hS0 ha (k := 23) rfl
          have g111 : s1 a 24 = s0 a 24 := (by rw [e_s1, zU_at (Or.inr (by decide))])
          have f112 := zf hS0 ha (k := 24) rfl
          have g113 : s1 a 38 = s0 a 38 := (by rw [e_s1, zU_at (Or.inr (by decide))])
          have f114 := zf hS0 ha (k := 38) rfl
          have g115 : s1 a 51 = s0 a 51 := (by rw [e_s1, zU_at (Or.inr (by decide))])
          have f116 := zf hS0 ha (k := 51) rfl
          have g117 : s1 a 52 = s0 a 52 := (by rw [e_s1, zU_at (Or.inr (by decide))])
          have f118 := zf hS0 ha (k := 52) rfl
          exact j_iret hx hq rfl (by decide) (by decide) dX12_told_85 ⟨(s0 (gP G a 27) 486), rfl, rfl, hS_s1, (zFr_u zFr_rf e_s1 ha (by decide)), ⟨(by omega), by omega, by omega, by omega, by omega, by omega, by omega, by omega, by omega, by omega, by omega, by omega⟩⟩
        · skip
          refine j_aload_n hx 0 dX12_told_70 rfl ?_
          refine j_callV hx hG (c_X12_whose hst a) lk_RX12_336 ha (by decide) rfl rfl rfl rfl [] ⟨rfl, hG, hS_s1, ha⟩ rfl rfl ⟨by decide, by decide⟩ ⟨by decide, by decide⟩ (k2 := 0) (n2 := 0) rfl rfl (Nat.le_of_ble_eq_true rfl) dX12_told_71 (kIP (fun v119 q120 => ?_))
          refine j_goto hx 85 dX12_told_74 rfl ?_
          have g121 : s1 a 3 = s0 a 3 := (by rw [e_s1, zU_at (Or.inr (by decide))])
          have f122 := zf hS0 ha (k := 3) rfl
          have g123 : s1 a 4 = s0 a 4 := (by rw [e_s1, zU_at (Or.inr (by decide))])
          have f124 := zf hS0 ha (k := 4) rfl
          have g125 : s1 a 5 = s0 a 5 := (by rw [e_s1, zU_at (Or.inr (by decide))])
          have f126 := zf hS0 ha (k := 5) rfl
          have g127 : s1 a 7 = s0 a 7 := (by rw [e_s1, zU_at (Or.inr (by decide))])
          have f128 := zf hS0 ha (k := 7) rfl
          have g129 : s1 a 21 = s0 a 21 := (by rw [e_s1, zU_at (Or.inr (by decide))])
          have f130 := zf hS0 ha (k := 21) rfl
          have g131 : s1 a 22 = s0 a 22 := (by rw [e_s1, zU_at (Or.inr (by decide))])
          have f132 := zf hS0 ha (k := 22) rfl
          have g133 : s1 a 23 = s0 a 23 := (by rw [e_s1, zU_at (Or.inr (by decide))])
          have f134 := zf hS0 ha (k := 23) rfl
          have g135 : s1 a 24 = s0 a 24 := (by rw [e_s1, zU_at (Or.inr (by decide))])
          have f136 := zf hS0 ha (k := 24) rfl
          have g137 : s1 a 38 = s0 a 38 := (by rw [e_s1, zU_at (Or.inr (by decide))])
          have f138 := zf hS0 ha (k := 38) rfl
          have g139 : s1 a 51 = s0 a 51 := (by rw [e_s1, zU_at (Or.inr (by decide))])
          have f140 := zf hS0 ha (k := 51) rfl
          have g141 : s1 a 52 = s0 a 52 := (by rw [e_s1, zU_at (Or.inr (by decide))])
          have f142 := zf hS0 ha (k := 52) rfl
          exact j_iret hx hq rfl (by decide) (by decide) dX12_told_85 ⟨v119, rfl, rfl, hS_s1, (zFr_u zFr_rf e_s1 ha (by decide)), ⟨(by omega), by omega, by omega, by omega, by omega, by omega, by omega, by omega, by omega, by omega, by omega, by omega⟩⟩
    · skip
      refine j_iload_n hx 1 dX12_told_28 rfl ?_
      refine j_if_ne hx 39 dX12_told_29 rfl (by omega) (fun h143 => ?_) (fun h143 => ?_)
      · skip
        refine j_iload_n hx 1 dX12_told_39 rfl ?_
        refine j_iconst hx dX12_told_40 ?_
        refine j_icmp_ne hx 51 dX12_told_41 rfl (by omega) ⟨by decide, by decide⟩ (fun h144 => ?_) (fun h144 => ?_)
        · skip
          refine j_aload_n hx 0 dX12_told_51 rfl ?_
          refine g13_27 hx hG ha kf_RX12_56 dX12_told_52 ?_
          refine j_sipush hx dX12_told_55 rfl ?_
          have f145 := zaQ (j := 488) hS0 (zr (k := 27) (t2 := 84) hG ha rfl) (congrArg some (axS_4 488 (by omega))) (zlen hG (zr (k := 27) (t2 := 84) hG ha rfl) (n := 515) rfl rfl) (show 0 ≤ 488 by omega) (by omega) rfl
          refine j_iald hx hG (zr (k := 27) (t2 := 84) hG ha rfl) (by decide) rfl (zlen hG (zr (k := 27) (t2 := 84) hG ha rfl) (n := 515) rfl rfl) (by omega) (by omega) (j := 488) rfl (v := (s0 (gP G a 27) 488)) (by rw [e_s1, zU_at (Or.inl (zne ha (zr (k := 27) (t2 := 84) hG ha rfl) (by decide)))]) dX12_told_58 ?_
          have g146 : s1 a 3 = s0 a 3 := (by rw [e_s1, zU_at (Or.inr (by decide))])
          have f147 := zf hS0 ha (k := 3) rfl
          have g148 : s1 a 4 = s0 a 4 := (by rw [e_s1, zU_at (Or.inr (by decide))])
          have f149 := zf hS0 ha (k := 4) rfl
          have g150 : s1 a 5 = s0 a 5 := (by rw [e_s1, zU_at (Or.inr (by decide))])
          have f151 := zf hS0 ha (k := 5) rfl
          have g152 : s1 a 7 = s0 a 7 := (by rw [e_s1, zU_at (Or.inr (by decide))])
          have f153 := zf hS0 ha (k := 7) rfl
          have g154 : s1 a 21 = s0 a 21 := (by rw [e_s1, zU_at (Or.inr (by decide))])
          have f155 := zf hS0 ha (k := 21) rfl
          have g156 : s1 a 22 = s0 a 22 := (by rw [e_s1, zU_at (Or.inr (by decide))])
          have f157 := zf hS0 ha (k := 22) rfl
          have g158 : s1 a 23 = s0 a 23 := (by rw [e_s1, zU_at (Or.inr (by decide))])
          have f159 := zf hS0 ha (k := 23) rfl
          have g160 : s1 a 24 = s0 a 24 := (by rw [e_s1, zU_at (Or.inr (by decide))])
          have f161 := zf hS0 ha (k := 24) rfl
          have g162 : s1 a 38 = s0 a 38 := (by rw [e_s1, zU_at (Or.inr (by decide))])
          have f163 := zf hS0 ha (k := 38) rfl
          have g164 : s1 a 51 = s0 a 51 := (by rw [e_s1, zU_at (Or.inr (by decide))])
          have f165 := zf hS0 ha (k := 51) rfl
          have g166 : s1 a 52 = s0 a 52 := (by rw [e_s1, zU_at (Or.inr (by decide))])
          have f167 := zf hS0 ha (k := 52) rfl
          exact j_iret hx hq rfl (by decide) (by decide) dX12_told_59 ⟨(s0 (gP G a 27) 488), rfl, rfl, hS_s1, (zFr_u zFr_rf e_s1 ha (by decide)), ⟨(by omega), by omega, by omega, by omega, by omega, by omega, by omega, by omega, by omega, by omega, by omega, by omega⟩⟩
        · skip
          refine j_aload_n hx 0 dX12_told_44 rfl ?_
          have f168 := zf hS0 ha (k := 25) rfl
          refine g13_25 hx hG ha kf_RX12_192 (v := (s0 a 25)) (by rw [e_s1, zU_at (Or.inr (by decide))]) dX12_told_45 ?_
          refine j_goto hx 59 dX12_told_48 rfl ?_
          have g169 : s1 a 3 = s0 a 3 := (by rw [e_s1, zU_at (Or.inr (by decide))])
          have f170 := zf hS0 ha (k := 3) rfl
          have g171 : s1 a 4 = s0 a 4 := (by rw [e_s1, zU_at (Or.inr (by decide))])
          have f172 := zf hS0 ha (k := 4) rfl
          have g173 : s1 a 5 = s0 a 5 := (by rw [e_s1, zU_at (Or.inr (by decide))])
          have f174 := zf hS0 ha (k := 5) rfl
          have g175 : s1 a 7 = s0 a 7 := (by rw [e_s1, zU_at (Or.inr (by decide))])
          have f176 := zf hS0 ha (k := 7) rfl
          have g177 : s1 a 21 = s0 a 21 := (by rw [e_s1, zU_at (Or.inr (by decide))])
          have f178 := zf hS0 ha (k := 21) rfl
          have g179 : s1 a 22 = s0 a 22 := (by rw [e_s1, zU_at (Or.inr (by decide))])
          have f180 := zf hS0 ha (k := 22) rfl
          have g181 : s1 a 23 = s0 a 23 := (by rw [e_s1, zU_at (Or.inr (by decide))])
          have f182 := zf hS0 ha (k := 23) rfl
          have g183 : s1 a 24 = s0 a 24 := (by rw [e_s1, zU_at (Or.inr (by decide))])
          have f184 := zf hS0 ha (k := 24) rfl
          have g185 : s1 a 38 = s0 a 38 := (by rw [e_s1, zU_at (Or.inr (by decide))])
          have f186 := zf hS0 ha (k := 38) rfl
          have g187 : s1 a 51 = s0 a 51 := (by rw [e_s1, zU_at (Or.inr (by decide))])
          have f188 := zf hS0 ha (k := 51) rfl
          have g189 : s1 a 52 = s0 a 52 := (by rw [e_s1, zU_at (Or.inr (by decide))])
          have f190 := zf hS0 ha (k := 52) rfl
          exact j_iret hx hq rfl (by decide) (by decide) dX12_told_59 ⟨(s0 a 25), rfl, rfl, hS_s1, (zFr_u zFr_rf e_s1 ha (by decide)), ⟨(by omega), by omega, by omega, by omega, by omega, by omega, by omega, by omega, by omega, by omega, by omega, by omega⟩⟩
      · skip
        refine j_aload_n hx 0 dX12_told_32 rfl ?_
        have f191 := zf hS0 ha (k := 24) rfl
        refine g13_24 hx hG ha kf_RX12_189 (v := (s0 a 24)) (by rw [e_s1, zU_at (Or.inr (by decide))]) dX12_told_33 ?_
        refine j_goto hx 59 dX12_told_36 rfl ?_
        have g192 : s1 a 3 = s0 a 3 := (by rw [e_s1, zU_at (Or.inr (by decide))])
        have f193 := zf hS0 ha (k := 3) rfl
        have g194 : s1 a 4 = s0 a 4 := (by rw [e_s1, zU_at (Or.inr (by decide))])
        have f195 := zf hS0 ha (k := 4) rfl
        have g196 : s1 a 5 = s0 a 5 := (by rw [e_s1, zU_at (Or.inr (by decide))])
        have f197 := zf hS0 ha (k := 5) rfl
        have g198 : s1 a 7 = s0 a 7 := (by rw [e_s1, zU_at (Or.inr (by decide))])
        have f199 := zf hS0 ha (k := 7) rfl
        have g200 : s1 a 21 = s0 a 21 := (by rw [e_s1, zU_at (Or.inr (by decide))])
        have f201 := zf hS0 ha (k := 21) rfl
        have g202 : s1 a 22 = s0 a 22 := (by rw [e_s1, zU_at (Or.inr (by decide))])
        have f203 := zf hS0 ha (k := 22) rfl
        have g204 : s1 a 23 = s0 a 23 := (by rw [e_s1, zU_at (Or.inr (by decide))])
        have f205 := zf hS0 ha (k := 23) rfl
        have g206 : s1 a 24 = s0 a 24 := (by rw [e_s1, zU_at (Or.inr (by decide))])
        have g207 : s1 a 38 = s0 a 38 := (by rw [e_s1, zU_at (Or.inr (by decide))])
        have f208 := zf hS0 ha (k := 38) rfl
        have g209 : s1 a 51 = s0 a 51 := (by rw [e_s1, zU_at (Or.inr (by decide))])
        have f210 := zf hS0 ha (k := 51) rfl
        have g211 : s1 a 52 = s0 a 52 := (by rw [e_s1, zU_at (Or.inr (by decide))])
        have f212 := zf hS0 ha (k := 52) rfl
        exact j_iret hx hq rfl (by decide) (by decide) dX12_told_59 ⟨(s0 a 24), rfl, rfl, hS_s1, (zFr_u zFr_rf e_s1 ha (by decide)), ⟨(by omega), by omega, by omega, by omega, by omega, by omega, by omega, by omega, by omega, by omega, by omega, by omega⟩⟩

set_option maxHeartbeats 4000000 in
set_option maxRecDepth 20000 in
theorem c_X12_isPlayer {E : zE} {l : Launch} (hst : l.stackTraces = false) (a : Nat) (x1 : Int) (x2 : Int) : Con E l yX12_isPlayer cX12_isPlayer 3 (some .boolean) { frames := 1, cells := 0, slots := 0, locals := 23 } (fun G s vs => vs = [.ref a, .int (zI x1), .int (zI x2)] ∧ zGK G ∧ zSK G s ∧ (gT G a = 13) ∧ ((-2147483648) ≤ x1 ∧ x1 ≤ 2147483647) ∧ (1 ≤ x2 ∧ x2 ≤ 2) ∧ (s a 0 = 0)) (fun G s _ => pI (fun r G2 s2 => G2 = G ∧ zSK G s2 ∧ zFr [13, 71] G s s2 ∧ (0 ≤ r ∧ r ≤ 1) ∧ ((r = 1 → 0 ≤ x1 ∧ x1 < s a 24 ∧ s2 a 0 = 0) ∧ (r = 0 → s2 a 0 = x2)) ∧ s2 a 3 = s a 3 ∧ s2 a 4 = s a 4 ∧ s2 a 5 = s a 5 ∧ s2 a 7 = s a 7 ∧ s2 a 21 = s a 21 ∧ s2 a 22 = s a 22 ∧ s2 a 23 = s a 23 ∧ s2 a 24 = s a 24 ∧ s2 a 38 = s a 38 ∧ s2 a 51 = s a 51 ∧ s2 a 52 = s a 52)) := by
  refine Con.mk hst (by decide) (fun G s vs h => by rw [h.1]; exact Nat.le_of_ble_eq_true rfl) ?_
  rintro X G s0 vs ⟨rfl, hG, hS0, ha, hx1, hx2, e0⟩ rfl hx hq
  show JJ X E 3 G s0 0 0 [(0, .ref a), (1, .int (zI x1)), (2, .int (zI x2))] 0 []
  refine j_aload_n hx 0 dX12_isPlayer_0 rfl ?_
  refine j_iload_n hx 1 dX12_isPlayer_1 rfl ?_
  refine j_iconst hx dX12_isPlayer_2 ?_
  refine j_aload_n hx 0 dX12_isPlayer_3 rfl ?_
  have f1 := zf hS0 ha (k := 24) rfl
  refine g13_24 hx hG ha kf_RX12_189 rfl dX12_isPlayer_4 ?_
  refine j_iconst hx dX12_isPlayer_7 ?_
  refine j_isub hx (r := (s0 a 24) - 1) dX12_isPlayer_8 (by omega) ?_
  refine j_callS hx (c_X12_within hst x1 0 ((s0 a 24) - 1)) lk_RX12_314 [.int (zI x1), .int (zI 0), .int (zI ((s0 a 24) - 1))] ⟨rfl, hG, hS0, (by omega), (by omega), (by omega)⟩ rfl rfl ⟨by decide, by decide⟩ ⟨by decide, by decide⟩ (k2 := 0) (n2 := 0) rfl rfl (Nat.le_of_ble_eq_true rfl) dX12_isPlayer_9 (kIP (fun v2 q3 => ?_))
  refine j_iload_n hx 2 dX12_isPlayer_12 rfl ?_
  refine j_iconst hx dX12_isPlayer_13 ?_
  rcases (show v2 = 0 ∨ v2 = 1 by omega) with rfl | rfl
  · skip
    have f5 := zf hS0 ha (k := 3) rfl
    have f6 := zf hS0 ha (k := 4) rfl
    have f7 := zf hS0 ha (k := 5) rfl
    have f8 := zf hS0 ha (k := 7) rfl
    have f9 := zf hS0 ha (k := 21) rfl
    have f10 := zf hS0 ha (k := 22) rfl
    have f11 := zf hS0 ha (k := 23) rfl
    have f12 := zf hS0 ha (k := 38) rfl
    have f13 := zf hS0 ha (k := 51) rfl
    have f14 := zf hS0 ha (k := 52) rfl
    refine j_callV hx hG (c_X12_may_f hst a 0 x2 0) lk_RX12_240 ha (by decide) rfl rfl rfl rfl [.int (zI 0), .int (zI x2), .int (zI 0)] ⟨rfl, hG, hS0, ha, (by omega), (by omega), (by omega), (by omega)⟩ rfl rfl ⟨by decide, by decide⟩ ⟨by decide, by decide⟩ (k2 := 0) (n2 := 0) rfl rfl (Nat.le_of_ble_eq_true rfl) dX12_isPlayer_14 (kIM (fun v15 s1 hS_s1 hF_s1 q16 => ?_))
    have f17 := zf hS_s1 ha (k := 0) rfl
    have f18 := zf hS_s1 ha (k := 3) rfl
    have f19 := zf hS_s1 ha (k := 4) rfl
    have f20 := zf hS_s1 ha (k := 5) rfl
    have f21 := zf hS_s1 ha (k := 7) rfl
    have f22 := zf hS_s1 ha (k := 21) rfl
    have f23 := zf hS_s1 ha (k := 22) rfl
    have f24 := zf hS_s1 ha (k := 23) rfl
    have f25 := zf hS_s1 ha (k := 24) rfl
    have f26 := zf hS_s1 ha (k := 38) rfl
    have f27 := zf hS_s1 ha (k := 51) rfl
    have f28 := zf hS_s1 ha (k := 52) rfl
    exact j_zret hx hq rfl (by decide) (by decide) dX12_isPlayer_17 (by omega) ⟨v15, rfl, rfl, hS_s1, (zFr_t zFr_rf hF_s1 (by decide)), ⟨(by omega), by omega, by omega, by omega, by omega, by omega, by omega, by omega, by omega, by omega, by omega, by omega, by omega⟩⟩
  · skip
    refine j_callV hx hG (c_X12_may_t hst a 1 x2 0) lk_RX12_240 ha (by decide) rfl rfl rfl rfl [.int (zI 1), .int (zI x2), .int (zI 0)] ⟨rfl, hG, hS0, ha, (by omega), (by omega), (by omega), (by omega)⟩ rfl rfl ⟨by decide, by decide⟩ ⟨by decide, by decide⟩ (k2 := 0) (n2 := 0) rfl rfl (Nat.le_of_ble_eq_true rfl) dX12_isPlayer_14 (kIP (fun v29 q30 => ?_))
    have f31 := zf hS0 ha (k := 3) rfl
    have f32 := zf hS0 ha (k := 4) rfl
    have f33 := zf hS0 ha (k := 5) rfl
    have f34 := zf hS0 ha (k := 7) rfl
    have f35 := zf hS0 ha (k := 21) rfl
    have f36 := zf hS0 ha (k := 22) rfl
    have f37 := zf hS0 ha (k := 23) rfl
    have f38 := zf hS0 ha (k := 38) rfl
    have f39 := zf hS0 ha (k := 51) rfl
    have f40 := zf hS0 ha (k := 52) rfl
    exact j_zret hx hq rfl (by decide) (by decide) dX12_isPlayer_17 (by omega) ⟨v29, rfl, rfl, hS0, zFr_rf, ⟨(by omega), by omega, by omega, by omega, by omega, by omega, by omega, by omega, by omega, by omega, by omega, by omega, by omega⟩⟩
