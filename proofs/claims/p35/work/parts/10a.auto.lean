set_option maxHeartbeats 1200000 in
set_option maxRecDepth 20000 in
theorem c_X12_feed {E : zE} {l : Launch} (hst : l.stackTraces = false) (a : Nat) (x1 : Int) (x2 : Int) (x3 : Int) (x4 : Int) (x5 : Int) : Con E l yX12_feed cX12_feed 8 (some .int) { frames := 0, cells := 0, slots := 0, locals := 0 } (fun G s vs => vs = [.ref a, .int (zI x1), .int (zI x2), .int (zI x3), .int (zI x4), .int (zI x5)] ∧ zGK G ∧ zSK G s ∧ (gT G a = 13) ∧ ((-2147483648) ≤ x1 ∧ x1 ≤ 2147483647) ∧ ((-2147483648) ≤ x2 ∧ x2 ≤ 2147483647) ∧ ((-2147483648) ≤ x3 ∧ x3 ≤ 2147483647) ∧ ((-2147483648) ≤ x4 ∧ x4 ≤ 2147483647) ∧ ((-2147483648) ≤ x5 ∧ x5 ≤ 2147483647)) (fun G s _ => pI (fun r G2 s2 => G2 = G ∧ zSK G s2 ∧ zFr [13, 72] G s s2 ∧ ((-2147483648) ≤ r ∧ r ≤ 2147483647) ∧ s2 a 3 = s a 3 ∧ s2 a 4 = s a 4 ∧ s2 a 5 = s a 5 ∧ s2 a 7 = s a 7 ∧ s2 a 21 = s a 21 ∧ s2 a 22 = s a 22 ∧ s2 a 23 = s a 23 ∧ s2 a 24 = s a 24 ∧ s2 a 38 = s a 38 ∧ s2 a 51 = s a 51 ∧ s2 a 52 = s a 52)) := by
  refine Con.mk hst (by decide) (fun G s vs h => by rw [h.1]; exact Nat.le_of_ble_eq_true rfl) ?_
  rintro X G s0 vs ⟨rfl, hG, hS0, ha, hx1, hx2, hx3, hx4, hx5⟩ rfl hx hq
  show JJ X E 8 G s0 0 0 [(0, .ref a), (1, .int (zI x1)), (2, .int (zI x2)), (3, .int (zI x3)), (4, .int (zI x4)), (5, .int (zI x5))] 0 []
  refine j_aload_n hx 0 dX12_feed_0 rfl ?_
  refine j_iconst hx dX12_feed_1 ?_
  refine p13_0 hx hG ha kf_RX12_3 dX12_feed_2 ?_
  obtain ⟨s1, e_s1⟩ : ∃ z, z = zU s0 a 0 0 := ⟨_, rfl⟩
  rw [← e_s1]
  have hS_s1 : zSK G s1 := by rw [e_s1]; exact zSK_F hS0 ha rfl rfl rfl (by omega)
  refine j_aload_n hx 0 dX12_feed_5 rfl ?_
  have f1 := zf hS0 ha (k := 2) rfl
  refine g13_2 hx hG ha kf_RX12_134 (v := (s0 a 2)) (by rw [e_s1, zU_at (Or.inr (by decide))]) dX12_feed_6 ?_
  refine j_bipush hx dX12_feed_9 rfl ?_
  refine j_iadd hx (r := (s0 a 2) + 20) dX12_feed_11 (by omega) ?_
  refine j_sipush hx dX12_feed_12 rfl ?_
  refine j_icmp_le hx 20 dX12_feed_15 rfl (by omega) ⟨by decide, by decide⟩ (fun h2 => ?_) (fun h2 => ?_)
  · skip
    refine j_iconst hx dX12_feed_20 ?_
    refine j_istore hx [(6, .int (zI 0)), (0, .ref a), (1, .int (zI x1)), (2, .int (zI x2)), (3, .int (zI x3)), (4, .int (zI x4)), (5, .int (zI x5))] dX12_feed_21 (by decide) rfl ?_
    have g4 : s1 a 0 = 0 := (by rw [e_s1, zU_eq])
    have g5 : s1 a 3 = s0 a 3 := (by rw [e_s1, zU_at (Or.inr (by decide))])
    have f6 := zf hS0 ha (k := 3) rfl
    have g7 : s1 a 4 = s0 a 4 := (by rw [e_s1, zU_at (Or.inr (by decide))])
    have f8 := zf hS0 ha (k := 4) rfl
    have g9 : s1 a 5 = s0 a 5 := (by rw [e_s1, zU_at (Or.inr (by decide))])
    have f10 := zf hS0 ha (k := 5) rfl
    have g11 : s1 a 7 = s0 a 7 := (by rw [e_s1, zU_at (Or.inr (by decide))])
    have f12 := zf hS0 ha (k := 7) rfl
    have g13 : s1 a 21 = s0 a 21 := (by rw [e_s1, zU_at (Or.inr (by decide))])
    have f14 := zf hS0 ha (k := 21) rfl
    have g15 : s1 a 22 = s0 a 22 := (by rw [e_s1, zU_at (Or.inr (by decide))])
    have f16 := zf hS0 ha (k := 22) rfl
    have g17 : s1 a 23 = s0 a 23 := (by rw [e_s1, zU_at (Or.inr (by decide))])
    have f18 := zf hS0 ha (k := 23) rfl
    have g19 : s1 a 24 = s0 a 24 := (by rw [e_s1, zU_at (Or.inr (by decide))])
    have f20 := zf hS0 ha (k := 24) rfl
    have g21 : s1 a 38 = s0 a 38 := (by rw [e_s1, zU_at (Or.inr (by decide))])
    have f22 := zf hS0 ha (k := 38) rfl
    have g23 : s1 a 51 = s0 a 51 := (by rw [e_s1, zU_at (Or.inr (by decide))])
    have f24 := zf hS0 ha (k := 51) rfl
    have g25 : s1 a 52 = s0 a 52 := (by rw [e_s1, zU_at (Or.inr (by decide))])
    have f26 := zf hS0 ha (k := 52) rfl
    have g27 : s1 a 2 = s0 a 2 := (by rw [e_s1, zU_at (Or.inr (by decide))])
    have c23_2 : ∀ (m_c23_2 : Nat) (v3 : Int) (s3 : zS), 2147483648 - v3 < m_c23_2 → (0 ≤ v3 ∧ v3 ≤ 20) → (zSK G s3) → (zFr [13, 72] G s1 s3) → (s3 a 0 = s1 a 0) → (s3 a 3 = s1 a 3) → (s3 a 4 = s1 a 4) → (s3 a 5 = s1 a 5) → (s3 a 7 = s1 a 7) → (s3 a 21 = s1 a 21) → (s3 a 22 = s1 a 22) → (s3 a 23 = s1 a 23) → (s3 a 24 = s1 a 24) → (s3 a 38 = s1 a 38) → (s3 a 51 = s1 a 51) → (s3 a 52 = s1 a 52) → (s3 a 2 = s1 a 2 + v3) → JJ X E 8 G s3 0 0 [(0, .ref a), (1, .int (zI x1)), (2, .int (zI x2)), (3, .int (zI x3)), (4, .int (zI x4)), (5, .int (zI x5)), (6, .int (zI v3))] 23 [] := by
      intro m_c23_2
      induction m_c23_2 with
      | zero => intro v3 s3 hm_c23_2 fA4 hS_s3 hF_s3 fA7 fA8 fA9 fA10 fA11 fA12 fA13 fA14 fA15 fA16 fA17 fA18 fA19; exfalso; omega
      | succ m_c23_2 ih_c23_2 => 
        intro v3 s3 hm_c23_2 fA4 hS_s3 hF_s3 fA7 fA8 fA9 fA10 fA11 fA12 fA13 fA14 fA15 fA16 fA17 fA18 fA19
        refine j_iload hx 6 dX12_feed_23 rfl ?_
        refine j_bipush hx dX12_feed_25 rfl ?_
        refine j_icmp_ge hx 120 dX12_feed_27 rfl (by omega) ⟨by decide, by decide⟩ (fun h28 => ?_) (fun h28 => ?_)
        · skip
          refine j_aload_n hx 0 dX12_feed_120 rfl ?_
          have f29 := zf hS_s3 ha (k := 2) rfl
          refine g13_2 hx hG ha kf_RX12_134 rfl dX12_feed_121 ?_
          have f30 := zf hS_s3 ha (k := 3) rfl
          have f31 := zf hS_s3 ha (k := 4) rfl
          have f32 := zf hS_s3 ha (k := 5) rfl
          have f33 := zf hS_s3 ha (k := 7) rfl
          have f34 := zf hS_s3 ha (k := 21) rfl
          have f35 := zf hS_s3 ha (k := 22) rfl
          have f36 := zf hS_s3 ha (k := 23) rfl
          have f37 := zf hS_s3 ha (k := 24) rfl
          have f38 := zf hS_s3 ha (k := 38) rfl
          have f39 := zf hS_s3 ha (k := 51) rfl
          have f40 := zf hS_s3 ha (k := 52) rfl
          exact j_iret hx hq rfl (by decide) (by decide) dX12_feed_124 ⟨(s3 a 2), rfl, rfl, hS_s3, (zFr_t (zFr_u zFr_rf e_s1 ha (by decide)) hF_s3 (by decide)), ⟨(by omega), by omega, by omega, by omega, by omega, by omega, by omega, by omega, by omega, by omega, by omega, by omega⟩⟩
        · skip
          refine j_iload hx 6 dX12_feed_30 rfl ?_
          refine j_iconst hx dX12_feed_32 ?_
          refine j_icmp_ge hx 40 dX12_feed_33 rfl (by omega) ⟨by decide, by decide⟩ (fun h41 => ?_) (fun h41 => ?_)
          · skip
            refine j_iload hx 6 dX12_feed_40 rfl ?_
            refine j_bipush hx dX12_feed_42 rfl ?_
            refine j_icmp_ge hx 51 dX12_feed_44 rfl (by omega) ⟨by decide, by decide⟩ (fun h42 => ?_) (fun h42 => ?_)
            · skip
              refine j_iload hx 6 dX12_feed_51 rfl ?_
              refine j_bipush hx dX12_feed_53 rfl ?_
              refine j_icmp_ge hx 62 dX12_feed_55 rfl (by omega) ⟨by decide, by decide⟩ (fun h43 => ?_) (fun h43 => ?_)
              · skip
                refine j_iload hx 6 dX12_feed_62 rfl ?_
                refine j_bipush hx dX12_feed_64 rfl ?_
                refine j_icmp_ge hx 74 dX12_feed_66 rfl (by omega) ⟨by decide, by decide⟩ (fun h44 => ?_) (fun h44 => ?_)
                · skip
                  refine j_iload hx 5 dX12_feed_74 rfl ?_
                  refine j_istore hx [(7, .int (zI x5)), (0, .ref a), (1, .int (zI x1)), (2, .int (zI x2)), (3, .int (zI x3)), (4, .int (zI x4)), (5, .int (zI x5)), (6, .int (zI v3))] dX12_feed_76 (by decide) rfl ?_
                  refine j_aload_n hx 1 dX12_feed_78 rfl ?_
                  refine g13_9 hx hG ha kf_RX12_20 dX12_feed_79 ?_
                  refine j_aload_n hx 1 dX12_feed_82 rfl ?_
                  have f45 := zf hS_s3 ha (k := 2) rfl
                  refine g13_2 hx hG ha kf_RX12_134 rfl dX12_feed_83 ?_
                  refine j_iload hx 0 dX12_feed_86 rfl ?_
                  refine j_bipush hx dX12_feed_88 rfl ?_
                  refine j_bipush hx dX12_feed_90 rfl ?_
                  refine j_iload hx 7 dX12_feed_92 rfl ?_
                  refine j_iconst hx dX12_feed_94 ?_
                  refine j_irem hx dX12_feed_95 (by omega) ⟨by decide, by decide⟩ (by decide) (fun v46 f47 f48 f49 f50 => ?_)
                  refine j_imul hx (r := 8 * v46) dX12_feed_96 rfl ?_
                  refine j_isub hx (r := (-8) * v46 + 24) dX12_feed_97 (by omega) ?_
                  refine j_ishrV hx dX12_feed_98 (fun v52 f53 f54 => ?_)
                  refine j_sipush hx dX12_feed_99 rfl ?_
                  refine j_iand hx dX12_feed_102 (by omega) ⟨by decide, by decide⟩ (fun v55 f56 f57 f58 f59 _ => ?_)
                  refine j_iast hx hG (zr (k := 9) (t2 := 72) hG ha rfl) (by decide) rfl (zlen hG (zr (k := 9) (t2 := 72) hG ha rfl) (n := 600) rfl rfl) (by omega) (by omega) (j := ((s3 a 2)).toNat) rfl dX12_feed_103 ?_
                  obtain ⟨s20, e_s20⟩ : ∃ z, z = zU s3 (gP G a 9) ((s3 a 2)).toNat v55 := ⟨_, rfl⟩
                  rw [← e_s20]
                  have hS_s20 : zSK G s20 := by rw [e_s20]; exact zSK_A hS_s3 (zr (k := 9) (t2 := 72) hG ha rfl) rfl rfl rfl (by omega)
                  refine j_aload_n hx 1 dX12_feed_104 rfl ?_
                  refine j_dup hx dX12_feed_105 rfl ?_
                  refine g13_2 hx hG ha kf_RX12_134 (v := (s3 a 2)) (by rw [e_s20, zU_at (Or.inl (zne (zr (k := 9) (t2 := 72) hG ha rfl) ha (by decide)))]) dX12_feed_106 ?_
                  refine j_iconst hx dX12_feed_109 ?_
                  refine j_iadd hx (r := (s3 a 2) + 1) dX12_feed_110 (by omega) ?_
                  refine p13_2 hx hG ha kf_RX12_134 dX12_feed_111 ?_
                  obtain ⟨s21, e_s21⟩ : ∃ z, z = zU s20 a 2 ((s3 a 2) + 1) := ⟨_, rfl⟩
                  rw [← e_s21]
                  have hS_s21 : zSK G s21 := by rw [e_s21]; exact zSK_F hS_s20 ha rfl rfl rfl (by omega)
                  refine j_iinc hx 7 [(6, .int (zI (v3 + 1))), (7, .int (zI x5)), (0, .ref a), (1, .int (zI x1)), (2, .int (zI x2)), (3, .int (zI x3)), (4, .int (zI x4)), (5, .int (zI x5))] dX12_feed_114 rfl (by omega) (by decide) rfl ?_
                  refine j_goto hx 23 dX12_feed_117 rfl ?_
                  have g61 : s21 a 0 = s3 a 0 := (by rw [e_s21, zU_at (Or.inr (by decide)), e_s20, zU_at (Or.inl (zne (zr (k := 9) (t2 := 72) hG ha rfl) ha (by decide)))])
                  have f62 := zf hS_s3 ha (k := 0) rfl
                  have g63 : s21 a 3 = s3 a 3 := (by rw [e_s21, zU_at (Or.inr (by decide)), e_s20, zU_at (Or.inl (zne (zr (k := 9) (t2 := 72) hG ha rfl) ha (by decide)))])
                  have f64 := zf hS_s3 ha (k := 3) rfl
                  have g65 : s21 a 4 = s3 a 4 := (by rw [e_s21, zU_at (Or.inr (by decide)), e_s20, zU_at (Or.inl (zne (zr (k := 9) (t2 := 72) hG ha rfl) ha (by decide)))])
                  have f66 := zf hS_s3 ha (k := 4) rfl
                  have g67 : s21 a 5 = s3 a 5 := (by rw [e_s21, zU_at (Or.inr (by decide)), e_s20, zU_at (Or.inl (zne (zr (k := 9) (t2 := 72) hG ha rfl) ha (by decide)))])
                  have f68 := zf hS_s3 ha (k := 5) rfl
                  have g69 : s21 a 7 = s3 a 7 := (by rw [e_s21, zU_at (Or.inr (by decide)), e_s20, zU_at (Or.inl (zne (zr (k := 9) (t2 := 72) hG ha rfl) ha (by decide)))])
                  have f70 := zf hS_s3 ha (k := 7) rfl
                  have g71 : s21 a 21 = s3 a 21 := (by rw [e_s21, zU_at (Or.inr (by decide)), e_s20, zU_at (Or.inl (zne (zr (k := 9) (t2 := 72) hG ha rfl) ha (by decide)))])
                  have f72 := zf hS_s3 ha (k := 21) rfl
                  have g73 : s21 a 22 = s3 a 22 := (by rw [e_s21, zU_at (Or.inr (by decide)), e_s20, zU_at (Or.inl (zne (zr (k := 9) (t2 := 72) hG ha rfl) ha (by decide)))])
                  have f74 := zf hS_s3 ha (k := 22) rfl
                  have g75 : s21 a 23 = s3 a 23 := (by rw [e_s21, zU_at (Or.inr (by decide)), e_s20, zU_at (Or.inl (zne (zr (k := 9) (t2 := 72) hG ha rfl) ha (by decide)))])
                  have f76 := zf hS_s3 ha (k := 23) rfl
                  have g77 : s21 a 24 = s3 a 24 := (by rw [e_s21, zU_at (Or.inr (by decide)), e_s20, zU_at (Or.inl (zne (zr (k := 9) (t2 := 72) hG ha rfl) ha (by decide)))])
                  have f78 := zf hS_s3 ha (k := 24) rfl
                  have g79 : s21 a 38 = s3 a 38 := (by rw [e_s21, zU_at (Or.inr (by decide)), e_s20, zU_at (Or.inl (zne (zr (k := 9) (t2 := 72) hG ha rfl) ha (by decide)))])
                  have f80 := zf hS_s3 ha (k := 38) rfl
                  have g81 : s21 a 51 = s3 a 51 := (by rw [e_s21, zU_at (Or.inr (by decide)), e_s20, zU_at (Or.inl (zne (zr (k := 9) (t2 := 72) hG ha rfl) ha (by decide)))])
                  have f82 := zf hS_s3 ha (k := 51) rfl
                  have g83 : s21 a 52 = s3 a 52 := (by rw [e_s21, zU_at (Or.inr (by decide)), e_s20, zU_at (Or.inl (zne (zr (k := 9) (t2 := 72) hG ha rfl) ha (by decide)))])
                  have f84 := zf hS_s3 ha (k := 52) rfl
                  have g85 : s21 a 2 = (s3 a 2) + 1 := (by rw [e_s21, zU_eq])
                  exact j_sub [2, 3, 4, 5, 6, 7, 0] [(0, .ref a), (1, .int (zI x1)), (2, .int (zI x2)), (3, .int (zI x3)), (4, .int (zI x4)), (5, .int (zI x5)), (6, .int (zI (v3 + 1)))] rfl (ih_c23_2 (v3 + 1) s21 (by omega) (by omega) hS_s21 (zFr_u (zFr_u (zFr_t zFr_rf hF_s3 (by decide)) e_s20 (zr (k := 9) (t2 := 72) hG ha rfl) (by decide)) e_s21 ha (by decide)) (by omega) (by omega) (by omega) (by omega) (by omega) (by omega) (by omega) (by omega) (by omega) (by omega) (by omega) (by omega) (by omega))
                · skip
                  refine j_iload hx 4 dX12_feed_69 rfl ?_
                  refine j_goto hx 76 dX12_feed_71 rfl ?_
                  refine j_istore hx [(7, .int (zI x4)), (0, .ref a), (1, .int (zI x1)), (2, .int (zI x2)), (3, .int (zI x3)), (4, .int (zI x4)), (5, .int (zI x5)), (6, .int (zI v3))] dX12_feed_76 (by decide) rfl ?_
                  refine j_aload_n hx 1 dX12_feed_78 rfl ?_
                  refine g13_9 hx hG ha kf_RX12_20 dX12_feed_79 ?_
                  refine j_aload_n hx 1 dX12_feed_82 rfl ?_
                  have f86 := zf hS_s3 ha (k := 2) rfl
                  refine g13_2 hx hG ha kf_RX12_134 rfl dX12_feed_83 ?_
                  refine j_iload hx 0 dX12_feed_86 rfl ?_
                  refine j_bipush hx dX12_feed_88 rfl ?_
                  refine j_bipush hx dX12_feed_90 rfl ?_
                  refine j_iload hx 7 dX12_feed_92 rfl ?_
                  refine j_iconst hx dX12_feed_94 ?_
                  refine j_irem hx dX12_feed_95 (by omega) ⟨by decide, by decide⟩ (by decide) (fun v87 f88 f89 f90 f91 => ?_)
                  refine j_imul hx (r := 8 * v87) dX12_feed_96 rfl ?_
                  refine j_isub hx (r := (-8) * v87 + 24) dX12_feed_97 (by omega) ?_
                  refine j_ishrV hx dX12_feed_98 (fun v93 f94 f95 => ?_)
                  refine j_sipush hx dX12_feed_99 rfl ?_
                  refine j_iand hx dX12_feed_102 (by omega) ⟨by decide, by decide⟩ (fun v96 f97 f98 f99 f100 _ => ?_)
                  refine j_iast hx hG (zr (k := 9) (t2 := 72) hG ha rfl) (by decide) rfl (zlen hG (zr (k := 9) (t2 := 72) hG ha rfl) (n := 600) rfl rfl) (by omega) (by omega) (j := ((s3 a 2)).toNat) rfl dX12_feed_103 ?_
                  obtain ⟨s22, e_s22⟩ : ∃ z, z = zU s3 (gP G a 9) ((s3 a 2)).toNat v96 := ⟨_, rfl⟩
                  rw [← e_s22]
                  have hS_s22 : zSK G s22 := by rw [e_s22]; exact zSK_A hS_s3 (zr (k := 9) (t2 := 72) hG ha rfl) rfl rfl rfl (by omega)
                  refine j_aload_n hx 1 dX12_feed_104 rfl ?_
                  refine j_dup hx dX12_feed_105 rfl ?_
                  refine g13_2 hx hG ha kf_RX12_134 (v := (s3 a 2)) (by rw [e_s22, zU_at (Or.inl (zne (zr (k := 9) (t2 := 72) hG ha rfl) ha (by decide)))]) dX12_feed_106 ?_
                  refine j_iconst hx dX12_feed_109 ?_
                  refine j_iadd hx (r := (s3 a 2) + 1) dX12_feed_110 (by omega) ?_
                  refine p13_2 hx hG ha kf_RX12_134 dX12_feed_111 ?_
                  obtain ⟨s23, e_s23⟩ : ∃ z, z = zU s22 a 2 ((s3 a 2) + 1) := ⟨_, rfl⟩
                  rw [← e_s23]
                  have hS_s23 : zSK G s23 := by rw [e_s23]; exact zSK_F hS_s22 ha rfl rfl rfl (by omega)
                  refine j_iinc hx 7 [(6, .int (zI (v3 + 1))), (7, .int (zI x4)), (0, .ref a), (1, .int (zI x1)), (2, .int (zI x2)), (3, .int (zI x3)), (4, .int (zI x4)), (5, .int (zI x5))] dX12_feed_114 rfl (by omega) (by decide) rfl ?_
                  refine j_goto hx 23 dX12_feed_117 rfl ?_
                  have g102 : s23 a 0 = s3 a 0 := (by rw [e_s23, zU_at (Or.inr (by decide)), e_s22, zU_at (Or.inl (zne (zr (k := 9) (t2 := 72) hG ha rfl) ha (by decide)))])
                  have f103 := zf hS_s3 ha (k := 0) rfl
                  have g104 : s23 a 3 = s3 a 3 := (by rw [e_s23, zU_at (Or.inr (by decide)), e_s22, zU_at (Or.inl (zne (zr (k := 9) (t2 := 72) hG ha rfl) ha (by decide)))])
                  have f105 := zf hS_s3 ha (k := 3) rfl
                  have g106 : s23 a 4 = s3 a 4 := (by rw [e_s23, zU_at (Or.inr (by decide)), e_s22, zU_at (Or.inl (zne (zr (k := 9) (t2 := 72) hG ha rfl) ha (by decide)))])
                  have f107 := zf hS_s3 ha (k := 4) rfl
                  have g108 : s23 a 5 = s3 a 5 := (by rw [e_s23, zU_at (Or.inr (by decide)), e_s22, zU_at (Or.inl (zne (zr (k := 9) (t2 := 72) hG ha rfl) ha (by decide)))])
                  have f109 := zf hS_s3 ha (k := 5) rfl
                  have g110 : s23 a 7 = s3 a 7 := (by rw [e_s23, zU_at (Or.inr (by decide)), e_s22, zU_at (Or.inl (zne (zr (k := 9) (t2 := 72) hG ha rfl) ha (by decide)))])
                  have f111 := zf hS_s3 ha (k := 7) rfl
                  have g112 : s23 a 21 = s3 a 21 := (by rw [e_s23, zU_at (Or.inr (by decide)), e_s22, zU_at (Or.inl (zne (zr (k := 9) (t2 := 72) hG ha rfl) ha (by decide)))])
                  have f113 := zf hS_s3 ha (k := 21) rfl
                  have g114 : s23 a 22 = s3 a 22 := (by rw [e_s23, zU_at (Or.inr (by decide)), e_s22, zU_at (Or.inl (zne (zr (k := 9) (t2 := 72) hG ha rfl) ha (by decide)))])
                  have f115 := zf hS_s3 ha (k := 22) rfl
                  have g116 : s23 a 23 = s3 a 23 := (by rw [e_s23, zU_at (Or.inr (by decide)), e_s22, zU_at (Or.inl (zne (zr (k := 9) (t2 := 72) hG ha rfl) ha (by decide)))])
                  have f117 := zf hS_s3 ha (k := 23) rfl
                  have g118 : s23 a 24 = s3 a 24 := (by rw [e_s23, zU_at (Or.inr (by decide)), e_s22, zU_at (Or.inl (zne (zr (k := 9) (t2 := 72) hG ha rfl) ha (by decide)))])
                  have f119 := zf hS_s3 ha (k := 24) rfl
                  have g120 : s23 a 38 = s3 a 38 := (by rw [e_s23, zU_at (Or.inr (by decide)), e_s22, zU_at (Or.inl (zne (zr (k := 9) (t2 := 72) hG ha rfl) ha (by decide)))])
                  have f121 := zf hS_s3 ha (k := 38) rfl
                  have g122 : s23 a 51 = s3 a 51 := (by rw [e_s23, zU_at (Or.inr (by decide)), e_s22, zU_at (Or.inl (zne (zr (k := 9) (t2 := 72) hG ha rfl) ha (by decide)))])
                  have f123 := zf hS_s3 ha (k := 51) rfl
                  have g124 : s23 a 52 = s3 a 52 := (by rw [e_s23, zU_at (Or.inr (by decide)), e_s22, zU_at (Or.inl (zne (zr (k := 9) (t2 := 72) hG ha rfl) ha (by decide)))])
                  have f125 := zf hS_s3 ha (k := 52) rfl
                  have g126 : s23 a 2 = (s3 a 2) + 1 := (by rw [e_s23, zU_eq])
                  exact j_sub [2, 3, 4, 5, 6, 7, 0] [(0, .ref a), (1, .int (zI x1)), (2, .int (zI x2)), (3, .int (zI x3)), (4, .int (zI x4)), (5, .int (zI x5)), (6, .int (zI (v3 + 1)))] rfl (ih_c23_2 (v3 + 1) s23 (by omega) (by omega) hS_s23 (zFr_u (zFr_u (zFr_t zFr_rf hF_s3 (by decide)) e_s22 (zr (k := 9) (t2 := 72) hG ha rfl) (by decide)) e_s23 ha (by decide)) (by omega) (by omega) (by omega) (by omega) (by omega) (by omega) (by omega) (by omega) (by omega) (by omega) (by omega) (by omega) (by omega))
              · skip
                refine j_iload_n hx 3 dX12_feed_58 rfl ?_
                refine j_goto hx 76 dX12_feed_59 rfl ?_
                refine j_istore hx [(7, .int (zI x3)), (0, .ref a), (1, .int (zI x1)), (2, .int (zI x2)), (3, .int (zI x3)), (4, .int (zI x4)), (5, .int (zI x5)), (6, .int (zI v3))] dX12_feed_76 (by decide) rfl ?_
                refine j_aload_n hx 1 dX12_feed_78 rfl ?_
                refine g13_9 hx hG ha kf_RX12_20 dX12_feed_79 ?_
                refine j_aload_n hx 1 dX12_feed_82 rfl ?_
                have f127 := zf hS_s3 ha (k := 2) rfl
                refine g13_2 hx hG ha kf_RX12_134 rfl dX12_feed_83 ?_
                refine j_iload hx 0 dX12_feed_86 rfl ?_
                refine j_bipush hx dX12_feed_88 rfl ?_
                refine j_bipush hx dX12_feed_90 rfl ?_
                refine j_iload hx 7 dX12_feed_92 rfl ?_
                refine j_iconst hx dX12_feed_94 ?_
                refine j_irem hx dX12_feed_95 (by omega) ⟨by decide, by decide⟩ (by decide) (fun v128 f129 f130 f131 f132 => ?_)
                refine j_imul hx (r := 8 * v128) dX12_feed_96 rfl ?_
                refine j_isub hx (r := (-8) * v128 + 24) dX12_feed_97 (by omega) ?_
                refine j_ishrV hx dX12_feed_98 (fun v134 f135 f136 => ?_)
                refine j_sipush hx dX12_feed_99 rfl ?_
                refine j_iand hx dX12_feed_102 (by omega) ⟨by decide, by decide⟩ (fun v137 f138 f139 f140 f141 _ => ?_)
                refine j_iast hx hG (zr (k := 9) (t2 := 72) hG ha rfl) (by decide) rfl (zlen hG (zr (k := 9) (t2 := 72) hG ha rfl) (n := 600) rfl rfl) (by omega) (by omega) (j := ((s3 a 2)).toNat) rfl dX12_feed_103 ?_
                obtain ⟨s24, e_s24⟩ : ∃ z, z = zU s3 (gP G a 9) ((s3 a 2)).toNat v137 := ⟨_, rfl⟩
                rw [← e_s24]
                have hS_s24 : zSK G s24 := by rw [e_s24]; exact zSK_A hS_s3 (zr (k := 9) (t2 := 72) hG ha rfl) rfl rfl rfl (by omega)
                refine j_aload_n hx 1 dX12_feed_104 rfl ?_
                refine j_dup hx dX12_feed_105 rfl ?_
                refine g13_2 hx hG ha kf_RX12_134 (v := (s3 a 2)) (by rw [e_s24, zU_at (Or.inl (zne (zr (k := 9) (t2 := 72) hG ha rfl) ha (by decide)))]) dX12_feed_106 ?_
                refine j_iconst hx dX12_feed_109 ?_
                refine j_iadd hx (r := (s3 a 2) + 1) dX12_feed_110 (by omega) ?_
                refine p13_2 hx hG ha kf_RX12_134 dX12_feed_111 ?_
                obtain ⟨s25, e_s25⟩ : ∃ z, z = zU s24 a 2 ((s3 a 2) + 1) := ⟨_, rfl⟩
                rw [← e_s25]
                have hS_s25 : zSK G s25 := by rw [e_s25]; exact zSK_F hS_s24 ha rfl rfl rfl (by omega)
                refine j_iinc hx 7 [(6, .int (zI (v3 + 1))), (7, .int (zI x3)), (0, .ref a), (1, .int (zI x1)), (2, .int (zI x2)), (3, .int (zI x3)), (4, .int (zI x4)), (5, .int (zI x5))] dX12_feed_114 rfl (by omega) (by decide) rfl ?_
                refine j_goto hx 23 dX12_feed_117 rfl ?_
                have g143 : s25 a 0 = s3 a 0 := (by rw [e_s25, zU_at (Or.inr (by decide)), e_s24, zU_at (Or.inl (zne (zr (k := 9) (t2 := 72) hG ha rfl) ha (by decide)))])
                have f144 := zf hS_s3 ha (k := 0) rfl
                have g145 : s25 a 3 = s3 a 3 := (by rw [e_s25, zU_at (Or.inr (by decide)), e_s24, zU_at (Or.inl (zne (zr (k := 9) (t2 := 72) hG ha rfl) ha (by decide)))])
                have f146 := zf hS_s3 ha (k := 3) rfl
                have g147 : s25 a 4 = s3 a 4 := (by rw [e_s25, zU_at (Or.inr (by decide)), e_s24, zU_at (Or.inl (zne (zr (k := 9) (t2 := 72) hG ha rfl) ha (by decide)))])
                have f148 := zf hS_s3 ha (k := 4) rfl
                have g149 : s25 a 5 = s3 a 5 := (by rw [e_s25, zU_at (Or.inr (by decide)), e_s24, zU_at (Or.inl (zne (zr (k := 9) (t2 := 72) hG ha rfl) ha (by decide)))])
                have f150 := zf hS_s3 ha (k := 5) rfl
                have g151 : s25 a 7 = s3 a 7 := (by rw [e_s25, zU_at (Or.inr (by decide)), e_s24, zU_at (Or.inl (zne (zr (k := 9) (t2 := 72) hG ha rfl) ha (by decide)))])
                have f152 := zf hS_s3 ha (k := 7) rfl
                have g153 : s25 a 21 = s3 a 21 := (by rw [e_s25, zU_at (Or.inr (by decide)), e_s24, zU_at (Or.inl (zne (zr (k := 9) (t2 := 72) hG ha rfl) ha (by decide)))])
                have f154 := zf hS_s3 ha (k := 21) rfl
                have g155 : s25 a 22 = s3 a 22 := (by rw [e_s25, zU_at (Or.inr (by decide)), e_s24, zU_at (Or.inl (zne (zr (k := 9) (t2 := 72) hG ha rfl) ha (by decide)))])
                have f156 := zf hS_s3 ha (k := 22) rfl
                have g157 : s25 a 23 = s3 a 23 := (by rw [e_s25, zU_at (Or.inr (by decide)), e_s24, zU_at (Or.inl (zne (zr (k := 9) (t2 := 72) hG ha rfl) ha (by decide)))])
                have f158 := zf hS_s3 ha (k := 23) rfl
                have g159 : s25 a 24 = s3 a 24 := (by rw [e_s25, zU_at (Or.inr (by decide)), e_s24, zU_at (Or.inl (zne (zr (k := 9) (t2 := 72) hG ha rfl) ha (by decide)))])
                have f160 := zf hS_s3 ha (k := 24) rfl
                have g161 : s25 a 38 = s3 a 38 := (by rw [e_s25, zU_at (Or.inr (by decide)), e_s24, zU_at (Or.inl (zne (zr (k := 9) (t2 := 72) hG ha rfl) ha (by decide)))])
                have f162 := zf hS_s3 ha (k := 38) rfl
                have g163 : s25 a 51 = s3 a 51 := (by rw [e_s25, zU_at (Or.inr (by decide)), e_s24, zU_at (Or.inl (zne (zr (k := 9) (t2 := 72) hG ha rfl) ha (by decide)))])
                have f164 := zf hS_s3 ha (k := 51) rfl
                have g165 : s25 a 52 = s3 a 52 := (by rw [e_s25, zU_at (Or.inr (by decide)), e_s24, zU_at (Or.inl (zne (zr (k := 9) (t2 := 72) hG ha rfl) ha (by decide)))])
                have f166 := zf hS_s3 ha (k := 52) rfl
                have g167 : s25 a 2 = (s3 a 2) + 1 := (by rw [e_s25, zU_eq])
                exact j_sub [2, 3, 4, 5, 6, 7, 0] [(0, .ref a), (1, .int (zI x1)), (2, .int (zI x2)), (3, .int (zI x3)), (4, .int (zI x4)), (5, .int (zI x5)), (6, .int (zI (v3 + 1)))] rfl (ih_c23_2 (v3 + 1) s25 (by omega) (by omega) hS_s25 (zFr_u (zFr_u (zFr_t zFr_rf hF_s3 (by decide)) e_s24 (zr (k := 9) (t2 := 72) hG ha rfl) (by decide)) e_s25 ha (by decide)) (by omega) (by omega) (by omega) (by omega) (by omega) (by omega) (by omega) (by omega) (by omega) (by omega) (by omega) (by omega) (by omega))
            · skip
              refine j_iload_n hx 2 dX12_feed_47 rfl ?_
              refine j_goto hx 76 dX12_feed_48 rfl ?_
              refine j_istore hx [(7, .int (zI x2)), (0, .ref a), (1, .int (zI x1)), (2, .int (zI x2)), (3, .int (zI x3)), (4, .int (zI x4)), (5, .int (zI x5)), (6, .int (zI v3))] dX12_feed_76 (by decide) rfl ?_
              refine j_aload_n hx 1 dX12_feed_78 rfl ?_
              refine g13_9 hx hG ha kf_RX12_20 dX12_feed_79 ?_
              refine j_aload_n hx 1 dX12_feed_82 rfl ?_
              have f168 := zf hS_s3 ha (k := 2) rfl
              refine g13_2 hx hG ha kf_RX12_134 rfl dX12_feed_83 ?_
              refine j_iload hx 0 dX12_feed_86 rfl ?_
              refine j_bipush hx dX12_feed_88 rfl ?_
              refine j_bipush hx dX12_feed_90 rfl ?_
              refine j_iload hx 7 dX12_feed_92 rfl ?_
              refine j_iconst hx dX12_feed_94 ?_
              refine j_irem hx dX12_feed_95 (by omega) ⟨by decide, by decide⟩ (by decide) (fun v169 f170 f171 f172 f173 => ?_)
              refine j_imul hx (r := 8 * v169) dX12_feed_96 rfl ?_
              refine j_isub hx (r := (-8) * v169 + 24) dX12_feed_97 (by omega) ?_
              refine j_ishrV hx dX12_feed_98 (fun v175 f176 f177 => ?_)
              refine j_sipush hx dX12_feed_99 rfl ?_
              refine j_iand hx dX12_feed_102 (by omega) ⟨by decide, by decide⟩ (fun v178 f179 f180 f181 f182 _ => ?_)
              refine j_iast hx hG (zr (k := 9) (t2 := 72) hG ha rfl) (by decide) rfl (zlen hG (zr (k := 9) (t2 := 72) hG ha rfl) (n := 600) rfl rfl) (by omega) (by omega) (j := ((s3 a 2)).toNat) rfl dX12_feed_103 ?_
              obtain ⟨s26, e_s26⟩ : ∃ z, z = zU s3 (gP G a 9) ((s3 a 2)).toNat v178 := ⟨_, rfl⟩
              rw [← e_s26]
              have hS_s26 : zSK G s26 := by rw [e_s26]; exact zSK_A hS_s3 (zr (k := 9) (t2 := 72) hG ha rfl) rfl rfl rfl (by omega)
              refine j_aload_n hx 1 dX12_feed_104 rfl ?_
              refine j_dup hx dX12_feed_105 rfl ?_
              refine g13_2 hx hG ha kf_RX12_134 (v := (s3 a 2)) (by rw [e_s26, zU_at (Or.inl (zne (zr (k := 9) (t2 := 72) hG ha rfl) ha (by decide)))]) dX12_feed_106 ?_
              refine j_iconst hx dX12_feed_109 ?_
              refine j_iadd hx (r := (s3 a 2) + 1) dX12_feed_110 (by omega) ?_
              refine p13_2 hx hG ha kf_RX12_134 dX12_feed_111 ?_
              obtain ⟨s27, e_s27⟩ : ∃ z, z = zU s26 a 2 ((s3 a 2) + 1) := ⟨_, rfl⟩
              rw [← e_s27]
              have hS_s27 : zSK G s27 := by rw [e_s27]; exact zSK_F hS_s26 ha rfl rfl rfl (by omega)
              refine j_iinc hx 7 [(6, .int (zI (v3 + 1))), (7, .int (zI x2)), (0, .ref a), (1, .int (zI x1)), (2, .int (zI x2)), (3, .int (zI x3)), (4, .int (zI x4)), (5, .int (zI x5))] dX12_feed_114 rfl (by omega) (by decide) rfl ?_
              refine j_goto hx 23 dX12_feed_117 rfl ?_
              have g184 : s27 a 0 = s3 a 0 := (by rw [e_s27, zU_at (Or.inr (by decide)), e_s26, zU_at (Or.inl (zne (zr (k := 9) (t2 := 72) hG ha rfl) ha (by decide)))])
              have f185 := zf hS_s3 ha (k := 0) rfl
              have g186 : s27 a 3 = s3 a 3 := (by rw [e_s27, zU_at (Or.inr (by decide)), e_s26, zU_at (Or.inl (zne (zr (k := 9) (t2 := 72) hG ha rfl) ha (by decide)))])
              have f187 := zf hS_s3 ha (k := 3) rfl
              have g188 : s27 a 4 = s3 a 4 := (by rw [e_s27, zU_at (Or.inr (by decide)), e_s26, zU_at (Or.inl (zne (zr (k := 9) (t2 := 72) hG ha rfl) ha (by decide)))])
              have f189 := zf hS_s3 ha (k := 4) rfl
              have g190 : s27 a 5 = s3 a 5 := (by rw [e_s27, zU_at (Or.inr (by decide)), e_s26, zU_at (Or.inl (zne (zr (k := 9) (t2 := 72) hG ha rfl) ha (by decide)))])
              have f191 := zf hS_s3 ha (k := 5) rfl
              have g192 : s27 a 7 = s3 a 7 := (by rw [e_s27, zU_at (Or.inr (by decide)), e_s26, zU_at (Or.inl (zne (zr (k := 9) (t2 := 72) hG ha rfl) ha (by decide)))])
              have f193 := zf hS_s3 ha (k := 7) rfl
              have g194 : s27 a 21 = s3 a 21 := (by rw [e_s27, zU_at (Or.inr (by decide)), e_s26, zU_at (Or.inl (zne (zr (k := 9) (t2 := 72) hG ha rfl) ha (by decide)))])
              have f195 := zf hS_s3 ha (k := 21) rfl
              have g196 : s27 a 22 = s3 a 22 := (by rw [e_s27, zU_at (Or.inr (by decide)), e_s26, zU_at (Or.inl (zne (zr (k := 9) (t2 := 72) hG ha rfl) ha (by decide)))])
              have f197 := zf hS_s3 ha (k := 22) rfl
              have g198 : s27 a 23 = s3 a 23 := (by rw [e_s27, zU_at (Or.inr (by decide)), e_s26, zU_at (Or.inl (zne (zr (k := 9) (t2 := 72) hG ha rfl) ha (by decide)))])
              have f199 := zf hS_s3 ha (k := 23) rfl
              have g200 : s27 a 24 = s3 a 24 := (by rw [e_s27, zU_at (Or.inr (by decide)), e_s26, zU_at (Or.inl (zne (zr (k := 9) (t2 := 72) hG ha rfl) ha (by decide)))])
              have f201 := zf hS_s3 ha (k := 24) rfl
              have g202 : s27 a 38 = s3 a 38 := (by rw [e_s27, zU_at (Or.inr (by decide)), e_s26, zU_at (Or.inl (zne (zr (k := 9) (t2 := 72) hG ha rfl) ha (by decide)))])
              have f203 := zf hS_s3 ha (k := 38) rfl
              have g204 : s27 a 51 = s3 a 51 := (by rw [e_s27, zU_at (Or.inr (by decide)), e_s26, zU_at (Or.inl (zne (zr (k := 9) (t2 := 72) hG ha rfl) ha (by decide)))])
              have f205 := zf hS_s3 ha (k := 51) rfl
              have g206 : s27 a 52 = s3 a 52 := (by rw [e_s27, zU_at (Or.inr (by decide)), e_s26, zU_at (Or.inl (zne (zr (k := 9) (t2 := 72) hG ha rfl) ha (by decide)))])
              have f207 := zf hS_s3 ha (k := 52) rfl
              have g208 : s27 a 2 = (s3 a 2) + 1 := (by rw [e_s27, zU_eq])
              exact j_sub [2, 3, 4, 5, 6, 7, 0] [(0, .ref a), (1, .int (zI x1)), (2, .int (zI x2)), (3, .int (zI x3)), (4, .int (zI x4)), (5, .int (zI x5)), (6, .int (zI (v3 + 1)))] rfl (ih_c23_2 (v3 + 1) s27 (by omega) (by omega) hS_s27 (zFr_u (zFr_u (zFr_t zFr_rf hF_s3 (by decide)) e_s26 (zr (k := 9) (t2 := 72) hG ha rfl) (by decide)) e_s27 ha (by decide)) (by omega) (by omega) (by omega) (by omega) (by omega) (by omega) (by omega) (by omega) (by omega) (by omega) (by omega) (by omega) (by omega))
          · skip
            refine j_iload_n hx 1 dX12_feed_36 rfl ?_
            refine j_goto hx 76 dX12_feed_37 rfl ?_
            refine j_istore hx [(7, .int (zI x1)), (0, .ref a), (1, .int (zI x1)), (2, .int (zI x2)), (3, .int (zI x3)), (4, .int (zI x4)), (5, .int (zI x5)), (6, .int (zI v3))] dX12_feed_76 (by decide) rfl ?_
            refine j_aload_n hx 1 dX12_feed_78 rfl ?_
            refine g13_9 hx hG ha kf_RX12_20 dX12_feed_79 ?_
            refine j_aload_n hx 1 dX12_feed_82 rfl ?_
            have f209 := zf hS_s3 ha (k := 2) rfl
            refine g13_2 hx hG ha kf_RX12_134 rfl dX12_feed_83 ?_
            refine j_iload hx 0 dX12_feed_86 rfl ?_
            refine j_bipush hx dX12_feed_88 rfl ?_
            refine j_bipush hx dX12_feed_90 rfl ?_
            refine j_iload hx 7 dX12_feed_92 rfl ?_
            refine j_iconst hx dX12_feed_94 ?_
            refine j_irem hx dX12_feed_95 (by omega) ⟨by decide, by decide⟩ (by decide) (fun v210 f211 f212 f213 f214 => ?_)
            refine j_imul hx (r := 8 * v210) dX12_feed_96 rfl ?_
            refine j_isub hx (r := (-8) * v210 + 24) dX12_feed_97 (by omega) ?_
            refine j_ishrV hx dX12_feed_98 (fun v216 f217 f218 => ?_)
            refine j_sipush hx dX12_feed_99 rfl ?_
            refine j_iand hx dX12_feed_102 (by omega) ⟨by decide, by decide⟩ (fun v219 f220 f221 f222 f223 _ => ?_)
            refine j_iast hx hG (zr (k := 9) (t2 := 72) hG ha rfl) (by decide) rfl (zlen hG (zr (k := 9) (t2 := 72) hG ha rfl) (n := 600) rfl rfl) (by omega) (by omega) (j := ((s3 a 2)).toNat) rfl dX12_feed_103 ?_
            obtain ⟨s28, e_s28⟩ : ∃ z, z = zU s3 (gP G a 9) ((s3 a 2)).toNat v219 := ⟨_, rfl⟩
            rw [← e_s28]
            have hS_s28 : zSK G s28 := by rw [e_s28]; exact zSK_A hS_s3 (zr (k := 9) (t2 := 72) hG ha rfl) rfl rfl rfl (by omega)
            refine j_aload_n hx 1 dX12_feed_104 rfl ?_
            refine j_dup hx dX12_feed_105 rfl ?_
            refine g13_2 hx hG ha kf_RX12_134 (v := (s3 a 2)) (by rw [e_s28, zU_at (Or.inl (zne (zr (k := 9) (t2 := 72) hG ha rfl) ha (by decide)))]) dX12_feed_106 ?_
            refine j_iconst hx dX12_feed_109 ?_
            refine j_iadd hx (r := (s3 a 2) + 1) dX12_feed_110 (by omega) ?_
            refine p13_2 hx hG ha kf_RX12_134 dX12_feed_111 ?_
            obtain ⟨s29, e_s29⟩ : ∃ z, z = zU s28 a 2 ((s3 a 2) + 1) := ⟨_, rfl⟩
            rw [← e_s29]
            have hS_s29 : zSK G s29 := by rw [e_s29]; exact zSK_F hS_s28 ha rfl rfl rfl (by omega)
            refine j_iinc hx 7 [(6, .int (zI (v3 + 1))), (7, .int (zI x1)), (0, .ref a), (1, .int (zI x1)), (2, .int (zI x2)), (3, .int (zI x3)), (4, .int (zI x4)), (5, .int (zI x5))] dX12_feed_114 rfl (by omega) (by decide) rfl ?_
            refine j_goto hx 23 dX12_feed_117 rfl ?_
            have g225 : s29 a 0 = s3 a 0 := (by rw [e_s29, zU_at (Or.inr (by decide)), e_s28, zU_at (Or.inl (zne (zr (k := 9) (t2 := 72) hG ha rfl) ha (by decide)))])
            have f226 := zf hS_s3 ha (k := 0) rfl
            have g227 : s29 a 3 = s3 a 3 := (by rw [e_s29, zU_at (Or.inr (by decide)), e_s28, zU_at (Or.inl (zne (zr (k := 9) (t2 := 72) hG ha rfl) ha (by decide)))])
            have f228 := zf hS_s3 ha (k := 3) rfl
            have g229 : s29 a 4 = s3 a 4 := (by rw [e_s29, zU_at (Or.inr (by decide)), e_s28, zU_at (Or.inl (zne (zr (k := 9) (t2 := 72) hG ha rfl) ha (by decide)))])
            have f230 := zf hS_s3 ha (k := 4) rfl
            have g231 : s29 a 5 = s3 a 5 := (by rw [e_s29, zU_at (Or.inr (by decide)), e_s28, zU_at (Or.inl (zne (zr (k := 9) (t2 := 72) hG ha rfl) ha (by decide)))])
            have f232 := zf hS_s3 ha (k := 5) rfl
            have g233 : s29 a 7 = s3 a 7 := (by rw [e_s29, zU_at (Or.inr (by decide)), e_s28, zU_at (Or.inl (zne (zr (k := 9) (t2 := 72) hG ha rfl) ha (by decide)))])
            have f234 := zf hS_s3 ha (k := 7) rfl
            have g235 : s29 a 21 = s3 a 21 := (by rw [e_s29, zU_at (Or.inr (by decide)), e_s28, zU_at (Or.inl (zne (zr (k := 9) (t2 := 72) hG ha rfl) ha (by decide)))])
            have f236 := zf hS_s3 ha (k := 21) rfl
            have g237 : s29 a 22 = s3 a 22 := (by rw [e_s29, zU_at (Or.inr (by decide)), e_s28, zU_at (Or.inl (zne (zr (k := 9) (t2 := 72) hG ha rfl) ha (by decide)))])
            have f238 := zf hS_s3 ha (k := 22) rfl
            have g239 : s29 a 23 = s3 a 23 := (by rw [e_s29, zU_at (Or.inr (by decide)), e_s28, zU_at (Or.inl (zne (zr (k := 9) (t2 := 72) hG ha rfl) ha (by decide)))])
            have f240 := zf hS_s3 ha (k := 23) rfl
            have g241 : s29 a 24 = s3 a 24 := (by rw [e_s29, zU_at (Or.inr (by decide)), e_s28, zU_at (Or.inl (zne (zr (k := 9) (t2 := 72) hG ha rfl) ha (by decide)))])
            have f242 := zf hS_s3 ha (k := 24) rfl
            have g243 : s29 a 38 = s3 a 38 := (by rw [e_s29, zU_at (Or.inr (by decide)), e_s28, zU_at (Or.inl (zne (zr (k := 9) (t2 := 72) hG ha rfl) ha (by decide)))])
            have f244 := zf hS_s3 ha (k := 38) rfl
            have g245 : s29 a 51 = s3 a 51 := (by rw [e_s29, zU_at (Or.inr (by decide)), e_s28, zU_at (Or.inl (zne (zr (k := 9) (t2 := 72) hG ha rfl) ha (by decide)))])
            have f246 := zf hS_s3 ha (k := 51) rfl
            have g247 : s29 a 52 = s3 a 52 := (by rw [e_s29, zU_at (Or.inr (by decide)), e_s28, zU_at (Or.inl (zne (zr (k := 9) (t2 := 72) hG ha rfl) ha (by decide)))])
            have f248 := zf hS_s3 ha (k := 52) rfl
            have g249 : s29 a 2 = (s3 a 2) + 1 := (by rw [e_s29, zU_eq])
            exact j_sub [2, 3, 4, 5, 6, 7, 0] [(0, .ref a), (1, .int (zI x1)), (2, .int (zI x2)), (3, .int (zI x3)), (4, .int (zI x4)), (5, .int (zI x5)), (6, .int (zI (v3 + 1)))] rfl (ih_c23_2 (v3 + 1) s29 (by omega) (by omega) hS_s29 (zFr_u (zFr_u (zFr_t zFr_rf hF_s3 (by decide)) e_s28 (zr (k := 9) (t2 := 72) hG ha rfl) (by decide)) e_s29 ha (by decide)) (by omega) (by omega) (by omega) (by omega) (by omega) (by omega) (by omega) (by omega) (by omega) (by omega) (by omega) (by omega) (by omega))
    exact j_sub [1, 2, 3, 4, 5, 6, 0] [(0, .ref a), (1, .int (zI x1)), (2, .int (zI x2)), (3, .int (zI x3)), (4, .int (zI x4)), (5, .int (zI x5)), (6, .int (zI 0))] rfl (c23_2 (2147483648 * 4) 0 s1 (by omega) (by omega) hS_s1 zFr_rf (by omega) (by omega) (by omega) (by omega) (by omega) (by omega) (by omega) (by omega) (by omega) (by omega) (by omega) (by omega) (by omega))
  · skip
    refine j_iconst hx dX12_feed_18 ?_
    have g250 : s1 a 3 = s0 a 3 := (by rw [e_s1, zU_at (Or.inr (by decide))])
    have f251 := zf hS0 ha (k := 3) rfl
    have g252 : s1 a 4 = s0 a 4 := (by rw [e_s1, zU_at (Or.inr (by decide))])
    have f253 := zf hS0 ha (k := 4) rfl
    have g254 : s1 a 5 = s0 a 5 := (by rw [e_s1, zU_at (Or.inr (by decide))])
    have f255 := zf hS0 ha (k := 5) rfl
    have g256 : s1 a 7 = s0 a 7 := (by rw [e_s1, zU_at (Or.inr (by decide))])
    have f257 := zf hS0 ha (k := 7) rfl
    have g258 : s1 a 21 = s0 a 21 := (by rw [e_s1, zU_at (Or.inr (by decide))])
    have f259 := zf hS0 ha (k := 21) rfl
    have g260 : s1 a 22 = s0 a 22 := (by rw [e_s1, zU_at (Or.inr (by decide))])
    have f261 := zf hS0 ha (k := 22) rfl
    have g262 : s1 a 23 = s0 a 23 := (by rw [e_s1, zU_at (Or.inr (by decide))])
    have f263 := zf hS0 ha (k := 23) rfl
    have g264 : s1 a 24 = s0 a 24 := (by rw [e_s1, zU_at (Or.inr (by decide))])
    have f265 := zf hS0 ha (k := 24) rfl
    have g266 : s1 a 38 = s0 a 38 := (by rw [e_s1, zU_at (Or.inr (by decide))])
    have f267 := zf hS0 ha (k := 38) rfl
    have g268 : s1 a 51 = s0 a 51 := (by rw [e_s1, zU_at (Or.inr (by decide))])
    have f269 := zf hS0 ha (k := 51) rfl
    have g270 : s1 a 52 = s0 a 52 := (by rw [e_s1, zU_at (Or.inr (by decide))])
    have f271 := zf hS0 ha (k := 52) rfl
    exact j_iret hx hq rfl (by decide) (by decide) dX12_feed_19 ⟨(-1), rfl, rfl, hS_s1, (zFr_u zFr_rf e_s1 ha (by decide)), ⟨(by omega), by omega, by omega, by omega, by omega, by omega, by omega, by omega, by omega, by omega, by omega, by omega⟩⟩

set_option maxHeartbeats 1200000 in
set_option maxRecDepth 20000 in
theorem c_X12_may {E : zE} {l : Launch} (hst : l.stackTraces = false) (a : Nat) (x1 : Int) (x2 : Int) (x3 : Int) : Con E l yX12_may cX12_may 4 (some .boolean) { frames := 0, cells := 0, slots := 0, locals := 0 } (fun G s vs => vs = [.ref a, .int (zI x1), .int (zI x2), .int (zI x3)] ∧ zGK G ∧ zSK G s ∧ (gT G a = 13) ∧ (0 ≤ x1 ∧ x1 ≤ 1) ∧ (1 ≤ x2 ∧ x2 ≤ 2) ∧ (0 ≤ x3 ∧ x3 ≤ 1)) (fun G s _ => pI (fun r G2 s2 => G2 = G ∧ zSK G s2 ∧ zFr [13, 71] G s s2 ∧ (0 ≤ r ∧ r ≤ 1) ∧ s2 a 3 = s a 3 ∧ s2 a 4 = s a 4 ∧ s2 a 5 = s a 5 ∧ s2 a 7 = s a 7 ∧ s2 a 21 = s a 21 ∧ s2 a 22 = s a 22 ∧ s2 a 23 = s a 23 ∧ s2 a 24 = s a 24 ∧ s2 a 38 = s a 38 ∧ s2 a 51 = s a 51 ∧ s2 a 52 = s a 52)) := by
  refine Con.mk hst (by decide) (fun G s vs h => by rw [h.1]; exact Nat.le_of_ble_eq_true rfl) ?_
  rintro X G s0 vs ⟨rfl, hG, hS0, ha, hx1, hx2, hx3⟩ rfl hx hq
  show JJ X E 4 G s0 0 0 [(0, .ref a), (1, .int (zI x1)), (2, .int (zI x2)), (3, .int (zI x3))] 0 []
  refine j_iload_n hx 1 dX12_may_0 rfl ?_
  have f1 := zf hS0 ha (k := 3) rfl
  have f2 := zf hS0 ha (k := 4) rfl
  have f3 := zf hS0 ha (k := 5) rfl
  have f4 := zf hS0 ha (k := 7) rfl
  have f5 := zf hS0 ha (k := 21) rfl
  have f6 := zf hS0 ha (k := 22) rfl
  have f7 := zf hS0 ha (k := 23) rfl
  have f8 := zf hS0 ha (k := 24) rfl
  have f9 := zf hS0 ha (k := 38) rfl
  have f10 := zf hS0 ha (k := 51) rfl
  have f11 := zf hS0 ha (k := 52) rfl
  have c26_1 : ∀ (s2 : zS), (zSK G s2) → (zFr [13, 71] G s0 s2) → (s2 a 3 = s0 a 3) → (s2 a 4 = s0 a 4) → (s2 a 5 = s0 a 5) → (s2 a 7 = s0 a 7) → (s2 a 21 = s0 a 21) → (s2 a 22 = s0 a 22) → (s2 a 23 = s0 a 23) → (s2 a 24 = s0 a 24) → (s2 a 38 = s0 a 38) → (s2 a 51 = s0 a 51) → (s2 a 52 = s0 a 52) → JJ X E 4 G s2 0 0 [(0, .ref a)] 26 [] := by
    intro s2 hS_s2 hF_s2 fA5 fA6 fA7 fA8 fA9 fA10 fA11 fA12 fA13 fA14 fA15
    refine j_aload_n hx 0 dX12_may_26 rfl ?_
    have f12 := zf hS_s2 ha (k := 0) rfl
    refine g13_0 hx hG ha kf_RX12_3 rfl dX12_may_27 ?_
    refine j_if_ne hx 37 dX12_may_30 rfl (by omega) (fun h13 => ?_) (fun h13 => ?_)
    · skip
      refine j_iconst hx dX12_may_37 ?_
      have f14 := zf hS_s2 ha (k := 3) rfl
      have f15 := zf hS_s2 ha (k := 4) rfl
      have f16 := zf hS_s2 ha (k := 5) rfl
      have f17 := zf hS_s2 ha (k := 7) rfl
      have f18 := zf hS_s2 ha (k := 21) rfl
      have f19 := zf hS_s2 ha (k := 22) rfl
      have f20 := zf hS_s2 ha (k := 23) rfl
      have f21 := zf hS_s2 ha (k := 24) rfl
      have f22 := zf hS_s2 ha (k := 38) rfl
      have f23 := zf hS_s2 ha (k := 51) rfl
      have f24 := zf hS_s2 ha (k := 52) rfl
      exact j_zret hx hq rfl (by decide) (by decide) dX12_may_38 (by omega) ⟨0, rfl, rfl, hS_s2, (zFr_t zFr_rf hF_s2 (by decide)), ⟨(by omega), by omega, by omega, by omega, by omega, by omega, by omega, by omega, by omega, by omega, by omega, by omega⟩⟩
    · skip
      refine j_iconst hx dX12_may_33 ?_
      refine j_goto hx 38 dX12_may_34 rfl ?_
      have f25 := zf hS_s2 ha (k := 3) rfl
      have f26 := zf hS_s2 ha (k := 4) rfl
      have f27 := zf hS_s2 ha (k := 5) rfl
      have f28 := zf hS_s2 ha (k := 7) rfl
      have f29 := zf hS_s2 ha (k := 21) rfl
      have f30 := zf hS_s2 ha (k := 22) rfl
      have f31 := zf hS_s2 ha (k := 23) rfl
      have f32 := zf hS_s2 ha (k := 24) rfl
      have f33 := zf hS_s2 ha (k := 38) rfl
      have f34 := zf hS_s2 ha (k := 51) rfl
      have f35 := zf hS_s2 ha (k := 52) rfl
      exact j_zret hx hq rfl (by decide) (by decide) dX12_may_38 (by omega) ⟨1, rfl, rfl, hS_s2, (zFr_t zFr_rf hF_s2 (by decide)), ⟨(by omega), by omega, by omega, by omega, by omega, by omega, by omega, by omega, by omega, by omega, by omega, by omega⟩⟩
  refine j_if_ne hx 26 dX12_may_1 rfl (by omega) (fun h36 => ?_) (fun h36 => ?_)
  · skip
    exact j_sub [0] [(0, .ref a)] rfl (c26_1 s0 hS0 zFr_rf (by omega) (by omega) (by omega) (by omega) (by omega) (by omega) (by omega) (by omega) (by omega) (by omega) (by omega))
  · skip
    refine j_aload_n hx 0 dX12_may_4 rfl ?_
    have f37 := zf hS0 ha (k := 0) rfl
    refine g13_0 hx hG ha kf_RX12_3 rfl dX12_may_5 ?_
    refine j_if_ne hx 26 dX12_may_8 rfl (by omega) (fun h38 => ?_) (fun h38 => ?_)
    · skip
      exact j_sub [0] [(0, .ref a)] rfl (c26_1 s0 hS0 zFr_rf (by omega) (by omega) (by omega) (by omega) (by omega) (by omega) (by omega) (by omega) (by omega) (by omega) (by omega))
    · skip
      refine j_aload_n hx 0 dX12_may_11 rfl ?_
      refine j_iload_n hx 2 dX12_may_12 rfl ?_
      refine p13_0 hx hG ha kf_RX12_3 dX12_may_13 ?_
      obtain ⟨s16, e_s16⟩ : ∃ z, z = zU s0 a 0 x2 := ⟨_, rfl⟩
      rw [← e_s16]
      have hS_s16 : zSK G s16 := by rw [e_s16]; exact zSK_F hS0 ha rfl rfl rfl (by omega)
      refine j_aload_n hx 0 dX12_may_16 rfl ?_
      refine g13_1 hx hG ha kf_RX12_7 dX12_may_17 ?_
      refine j_iload_n hx 3 dX12_may_20 rfl ?_
      refine j_dup2 hx dX12_may_21 rfl rfl ?_
      have f39 := zaI (j := (x3).toNat) hS0 (zr (k := 1) (t2 := 71) hG ha rfl) rfl (zlen hG (zr (k := 1) (t2 := 71) hG ha rfl) (n := 2) rfl rfl) (show 0 ≤ x3 by omega) (by omega) rfl
      refine j_iald hx hG (zr (k := 1) (t2 := 71) hG ha rfl) (by decide) rfl (zlen hG (zr (k := 1) (t2 := 71) hG ha rfl) (n := 2) rfl rfl) (by omega) (by omega) (j := (x3).toNat) rfl (v := (s0 (gP G a 1) (x3).toNat)) (by rw [e_s16, zU_at (Or.inl (zne ha (zr (k := 1) (t2 := 71) hG ha rfl) (by decide)))]) dX12_may_22 ?_
      refine j_iconst hx dX12_may_23 ?_
      refine j_iadd hx (r := (s0 (gP G a 1) (x3).toNat) + 1) dX12_may_24 (by omega) ?_
      refine j_norm (fun v40 f41 f42 f43 => ?_)
      refine j_iast hx hG (zr (k := 1) (t2 := 71) hG ha rfl) (by decide) rfl (zlen hG (zr (k := 1) (t2 := 71) hG ha rfl) (n := 2) rfl rfl) (by omega) (by omega) (j := (x3).toNat) rfl dX12_may_25 ?_
      obtain ⟨s17, e_s17⟩ : ∃ z, z = zU s16 (gP G a 1) (x3).toNat v40 := ⟨_, rfl⟩
      rw [← e_s17]
      have hS_s17 : zSK G s17 := by rw [e_s17]; exact zSK_A hS_s16 (zr (k := 1) (t2 := 71) hG ha rfl) rfl rfl rfl (by omega)
      have g44 : s17 a 3 = s0 a 3 := (by rw [e_s17, zU_at (Or.inl (zne (zr (k := 1) (t2 := 71) hG ha rfl) ha (by decide))), e_s16, zU_at (Or.inr (by decide))])
      have g45 : s17 a 4 = s0 a 4 := (by rw [e_s17, zU_at (Or.inl (zne (zr (k := 1) (t2 := 71) hG ha rfl) ha (by decide))), e_s16, zU_at (Or.inr (by decide))])
      have g46 : s17 a 5 = s0 a 5 := (by rw [e_s17, zU_at (Or.inl (zne (zr (k := 1) (t2 := 71) hG ha rfl) ha (by decide))), e_s16, zU_at (Or.inr (by decide))])
      have g47 : s17 a 7 = s0 a 7 := (by rw [e_s17, zU_at (Or.inl (zne (zr (k := 1) (t2 := 71) hG ha rfl) ha (by decide))), e_s16, zU_at (Or.inr (by decide))])
      have g48 : s17 a 21 = s0 a 21 := (by rw [e_s17, zU_at (Or.inl (zne (zr (k := 1) (t2 := 71) hG ha rfl) ha (by decide))), e_s16, zU_at (Or.inr (by decide))])
      have g49 : s17 a 22 = s0 a 22 := (by rw [e_s17, zU_at (Or.inl (zne (zr (k := 1) (t2 := 71) hG ha rfl) ha (by decide))), e_s16, zU_at (Or.inr (by decide))])
      have g50 : s17 a 23 = s0 a 23 := (by rw [e_s17, zU_at (Or.inl (zne (zr (k := 1) (t2 := 71) hG ha rfl) ha (by decide))), e_s16, zU_at (Or.inr (by decide))])
      have g51 : s17 a 24 = s0 a 24 := (by rw [e_s17, zU_at (Or.inl (zne (zr (k := 1) (t2 := 71) hG ha rfl) ha (by decide))), e_s16, zU_at (Or.inr (by decide))])
      have g52 : s17 a 38 = s0 a 38 := (by rw [e_s17, zU_at (Or.inl (zne (zr (k := 1) (t2 := 71) hG ha rfl) ha (by decide))), e_s16, zU_at (Or.inr (by decide))])
      have g53 : s17 a 51 = s0 a 51 := (by rw [e_s17, zU_at (Or.inl (zne (zr (k := 1) (t2 := 71) hG ha rfl) ha (by decide))), e_s16, zU_at (Or.inr (by decide))])
      have g54 : s17 a 52 = s0 a 52 := (by rw [e_s17, zU_at (Or.inl (zne (zr (k := 1) (t2 := 71) hG ha rfl) ha (by decide))), e_s16, zU_at (Or.inr (by decide))])
      exact j_sub [0] [(0, .ref a)] rfl (c26_1 s17 hS_s17 (zFr_u (zFr_u zFr_rf e_s16 ha (by decide)) e_s17 (zr (k := 1) (t2 := 71) hG ha rfl) (by decide)) (by omega) (by omega) (by omega) (by omega) (by omega) (by omega) (by omega) (by omega) (by omega) (by omega) (by omega))

set_option maxHeartbeats 1200000 in
set_option maxRecDepth 20000 in
theorem c_X12_begins {E : zE} {l : Launch} (hst : l.stackTraces = false) (a : Nat) (x1 : Int) : Con E l yX12_begins cX12_begins 2 none { frames := 0, cells := 0, slots := 0, locals := 0 } (fun G s vs => vs = [.ref a, .int (zI x1)] ∧ zGK G ∧ zSK G s ∧ (gT G a = 13) ∧ (0 ≤ x1 ∧ x1 ≤ 600)) (fun G s _ => pV (fun G2 s2 => G2 = G ∧ zSK G s2 ∧ zFr [13] G s s2 ∧ s2 a 5 = -1 ∧ s2 a 4 = 0 ∧ s2 a 3 = x1 ∧ s2 a 7 = 0 ∧ s2 a 0 = s a 0 ∧ s2 a 21 = s a 21 ∧ s2 a 22 = s a 22 ∧ s2 a 23 = s a 23 ∧ s2 a 24 = s a 24 ∧ s2 a 38 = s a 38 ∧ s2 a 51 = s a 51 ∧ s2 a 52 = s a 52)) := by
  refine Con.mk hst (by decide) (fun G s vs h => by rw [h.1]; exact Nat.le_of_ble_eq_true rfl) ?_
  rintro X G s0 vs ⟨rfl, hG, hS0, ha, hx1⟩ rfl hx hq
  show JJ X E 2 G s0 0 0 [(0, .ref a), (1, .int (zI x1))] 0 []
  refine j_aload_n hx 0 dX12_begins_0 rfl ?_
  refine j_iconst hx dX12_begins_1 ?_
  refine p13_2 hx hG ha kf_RX12_134 dX12_begins_2 ?_
  obtain ⟨s1, e_s1⟩ : ∃ z, z = zU s0 a 2 0 := ⟨_, rfl⟩
  rw [← e_s1]
  have hS_s1 : zSK G s1 := by rw [e_s1]; exact zSK_F hS0 ha rfl rfl rfl (by omega)
  refine j_aload_n hx 0 dX12_begins_5 rfl ?_
  refine j_iconst hx dX12_begins_6 ?_
  refine p13_8 hx hG ha kf_RX12_17 dX12_begins_7 ?_
  obtain ⟨s2, e_s2⟩ : ∃ z, z = zU s1 a 8 (-1) := ⟨_, rfl⟩
  rw [← e_s2]
  have hS_s2 : zSK G s2 := by rw [e_s2]; exact zSK_F hS_s1 ha rfl rfl rfl (by omega)
  refine j_aload_n hx 0 dX12_begins_10 rfl ?_
  refine j_iload_n hx 1 dX12_begins_11 rfl ?_
  refine p13_3 hx hG ha kf_RX12_146 dX12_begins_12 ?_
  obtain ⟨s3, e_s3⟩ : ∃ z, z = zU s2 a 3 x1 := ⟨_, rfl⟩
  rw [← e_s3]
  have hS_s3 : zSK G s3 := by rw [e_s3]; exact zSK_F hS_s2 ha rfl rfl rfl (by omega)
  refine j_aload_n hx 0 dX12_begins_15 rfl ?_
  refine j_iconst hx dX12_begins_16 ?_
  refine p13_4 hx hG ha kf_RX12_143 dX12_begins_17 ?_
  obtain ⟨s4, e_s4⟩ : ∃ z, z = zU s3 a 4 0 := ⟨_, rfl⟩
  rw [← e_s4]
  have hS_s4 : zSK G s4 := by rw [e_s4]; exact zSK_F hS_s3 ha rfl rfl rfl (by omega)
  refine j_aload_n hx 0 dX12_begins_20 rfl ?_
  refine j_iconst hx dX12_begins_21 ?_
  refine p13_5 hx hG ha kf_RX12_137 dX12_begins_22 ?_
  obtain ⟨s5, e_s5⟩ : ∃ z, z = zU s4 a 5 (-1) := ⟨_, rfl⟩
  rw [← e_s5]
  have hS_s5 : zSK G s5 := by rw [e_s5]; exact zSK_F hS_s4 ha rfl rfl rfl (by omega)
  refine j_aload_n hx 0 dX12_begins_25 rfl ?_
  refine j_iconst hx dX12_begins_26 ?_
  refine p13_7 hx hG ha kf_RX12_177 dX12_begins_27 ?_
  obtain ⟨s6, e_s6⟩ : ∃ z, z = zU s5 a 7 0 := ⟨_, rfl⟩
  rw [← e_s6]
  have hS_s6 : zSK G s6 := by rw [e_s6]; exact zSK_F hS_s5 ha rfl rfl rfl (by omega)
  have g1 : s6 a 5 = (-1) := (by rw [e_s6, zU_at (Or.inr (by decide)), e_s5, zU_eq])
  have g2 : s6 a 4 = 0 := (by rw [e_s6, zU_at (Or.inr (by decide)), e_s5, zU_at (Or.inr (by decide)), e_s4, zU_eq])
  have g3 : s6 a 3 = x1 := (by rw [e_s6, zU_at (Or.inr (by decide)), e_s5, zU_at (Or.inr (by decide)), e_s4, zU_at (Or.inr (by decide)), e_s3, zU_eq])
  have g4 : s6 a 7 = 0 := (by rw [e_s6, zU_eq])
  have g5 : s6 a 0 = s0 a 0 := (by rw [e_s6, zU_at (Or.inr (by decide)), e_s5, zU_at (Or.inr (by decide)), e_s4, zU_at (Or.inr (by decide)), e_s3, zU_at (Or.inr (by decide)), e_s2, zU_at (Or.inr (by decide)), e_s1, zU_at (Or.inr (by decide))])
  have f6 := zf hS0 ha (k := 0) rfl
  have g7 : s6 a 21 = s0 a 21 := (by rw [e_s6, zU_at (Or.inr (by decide)), e_s5, zU_at (Or.inr (by decide)), e_s4, zU_at (Or.inr (by decide)), e_s3, zU_at (Or.inr (by decide)), e_s2, zU_at (Or.inr (by decide)), e_s1, zU_at (Or.inr (by decide))])
  have f8 := zf hS0 ha (k := 21) rfl
  have g9 : s6 a 22 = s0 a 22 := (by rw [e_s6, zU_at (Or.inr (by decide)), e_s5, zU_at (Or.inr (by decide)), e_s4, zU_at (Or.inr (by decide)), e_s3, zU_at (Or.inr (by decide)), e_s2, zU_at (Or.inr (by decide)), e_s1, zU_at (Or.inr (by decide))])
  have f10 := zf hS0 ha (k := 22) rfl
  have g11 : s6 a 23 = s0 a 23 := (by rw [e_s6, zU_at (Or.inr (by decide)), e_s5, zU_at (Or.inr (by decide)), e_s4, zU_at (Or.inr (by decide)), e_s3, zU_at (Or.inr (by decide)), e_s2, zU_at (Or.inr (by decide)), e_s1, zU_at (Or.inr (by decide))])
  have f12 := zf hS0 ha (k := 23) rfl
  have g13 : s6 a 24 = s0 a 24 := (by rw [e_s6, zU_at (Or.inr (by decide)), e_s5, zU_at (Or.inr (by decide)), e_s4, zU_at (Or.inr (by decide)), e_s3, zU_at (Or.inr (by decide)), e_s2, zU_at (Or.inr (by decide)), e_s1, zU_at (Or.inr (by decide))])
  have f14 := zf hS0 ha (k := 24) rfl
  have g15 : s6 a 38 = s0 a 38 := (by rw [e_s6, zU_at (Or.inr (by decide)), e_s5, zU_at (Or.inr (by decide)), e_s4, zU_at (Or.inr (by decide)), e_s3, zU_at (Or.inr (by decide)), e_s2, zU_at (Or.inr (by decide)), e_s1, zU_at (Or.inr (by decide))])
  have f16 := zf hS0 ha (k := 38) rfl
  have g17 : s6 a 51 = s0 a 51 := (by rw [e_s6, zU_at (Or.inr (by decide)), e_s5, zU_at (Or.inr (by decide)), e_s4, zU_at (Or.inr (by decide)), e_s3, zU_at (Or.inr (by decide)), e_s2, zU_at (Or.inr (by decide)), e_s1, zU_at (Or.inr (by decide))])
  have f18 := zf hS0 ha (k := 51) rfl
  have g19 : s6 a 52 = s0 a 52 := (by rw [e_s6, zU_at (Or.inr (by decide)), e_s5, zU_at (Or.inr (by decide)), e_s4, zU_at (Or.inr (by decide)), e_s3, zU_at (Or.inr (by decide)), e_s2, zU_at (Or.inr (by decide)), e_s1, zU_at (Or.inr (by decide))])
  have f20 := zf hS0 ha (k := 52) rfl
  exact j_vret hx hq rfl (by decide) (by decide) dX12_begins_30 ⟨rfl, rfl, hS_s6, (zFr_u (zFr_u (zFr_u (zFr_u (zFr_u (zFr_u zFr_rf e_s1 ha (by decide)) e_s2 ha (by decide)) e_s3 ha (by decide)) e_s4 ha (by decide)) e_s5 ha (by decide)) e_s6 ha (by decide)), ⟨by omega, by omega, by omega, by omega, by omega, by omega, by omega, by omega, by omega, by omega, by omega, by omega⟩⟩

set_option maxHeartbeats 1200000 in
set_option maxRecDepth 20000 in
theorem c_X12_clears {E : zE} {l : Launch} (hst : l.stackTraces = false) (a : Nat) : Con E l yX12_clears cX12_clears 2 none { frames := 0, cells := 0, slots := 0, locals := 0 } (fun G s vs => vs = [.ref a] ∧ zGK G ∧ zSK G s ∧ (gT G a = 13)) (fun G s _ => pV (fun G2 s2 => G2 = G ∧ zSK G s2 ∧ zFr [13, 74, 76, 77, 78] G s s2 ∧ s2 (gP G a 13) 0 + s2 (gP G a 13) 1 + s2 (gP G a 13) 2 = 0 ∧ s2 a 21 = 0 ∧ s2 a 22 = 0 ∧ s2 a 23 = 0 ∧ s2 a 0 = s a 0 ∧ s2 a 3 = s a 3 ∧ s2 a 4 = s a 4 ∧ s2 a 5 = s a 5 ∧ s2 a 7 = s a 7 ∧ s2 a 24 = s a 24 ∧ s2 a 38 = s a 38 ∧ s2 a 51 = s a 51 ∧ s2 a 52 = s a 52)) := by
  refine Con.mk hst (by decide) (fun G s vs h => by rw [h.1]; exact Nat.le_of_ble_eq_true rfl) ?_
  rintro X G s0 vs ⟨rfl, hG, hS0, ha⟩ rfl hx hq
  show JJ X E 2 G s0 0 0 [(0, .ref a)] 0 []
  refine j_aload_n hx 0 dX12_clears_0 rfl ?_
  refine j_iconst hx dX12_clears_1 ?_
  refine p13_21 hx hG ha kf_RX12_180 dX12_clears_2 ?_
  obtain ⟨s1, e_s1⟩ : ∃ z, z = zU s0 a 21 0 := ⟨_, rfl⟩
  rw [← e_s1]
  have hS_s1 : zSK G s1 := by rw [e_s1]; exact zSK_F hS0 ha rfl rfl rfl (by omega)
  refine j_aload_n hx 0 dX12_clears_5 rfl ?_
  refine j_iconst hx dX12_clears_6 ?_
  refine p13_22 hx hG ha kf_RX12_183 dX12_clears_7 ?_
  obtain ⟨s2, e_s2⟩ : ∃ z, z = zU s1 a 22 0 := ⟨_, rfl⟩
  rw [← e_s2]
  have hS_s2 : zSK G s2 := by rw [e_s2]; exact zSK_F hS_s1 ha rfl rfl rfl (by omega)
  refine j_aload_n hx 0 dX12_clears_10 rfl ?_
  refine j_iconst hx dX12_clears_11 ?_
  refine p13_23 hx hG ha kf_RX12_186 dX12_clears_12 ?_
  obtain ⟨s3, e_s3⟩ : ∃ z, z = zU s2 a 23 0 := ⟨_, rfl⟩
  rw [← e_s3]
  have hS_s3 : zSK G s3 := by rw [e_s3]; exact zSK_F hS_s2 ha rfl rfl rfl (by omega)
  refine j_iconst hx dX12_clears_15 ?_
  refine j_istore_n hx [(1, .int (zI 0)), (0, .ref a)] dX12_clears_16 (by decide) rfl ?_
  refine j_iload_n hx 0 dX12_clears_17 rfl ?_
  refine j_iconst hx dX12_clears_18 ?_
  refine j_icmp_ge hx 56 dX12_clears_19 rfl ⟨by decide, by decide⟩ ⟨by decide, by decide⟩ (fun h1 => absurd h1 (by omega)) (fun h1 => ?_)
  refine j_aload_n hx 1 dX12_clears_22 rfl ?_
  refine g13_11 hx hG ha kf_RX12_26 dX12_clears_23 ?_
  refine j_iload_n hx 0 dX12_clears_26 rfl ?_
  refine j_iconst hx dX12_clears_27 ?_
  refine j_iast hx hG (zr (k := 11) (t2 := 74) hG ha rfl) (by decide) rfl (zlen hG (zr (k := 11) (t2 := 74) hG ha rfl) (n := 3) rfl rfl) (by omega) (by omega) (j := 0) rfl dX12_clears_28 ?_
  obtain ⟨s4, e_s4⟩ : ∃ z, z = zU s3 (gP G a 11) 0 5 := ⟨_, rfl⟩
  rw [← e_s4]
  have hS_s4 : zSK G s4 := by rw [e_s4]; exact zSK_A hS_s3 (zr (k := 11) (t2 := 74) hG ha rfl) rfl rfl rfl (by omega)
  refine j_aload_n hx 1 dX12_clears_29 rfl ?_
  refine g13_13 hx hG ha kf_RX12_32 dX12_clears_30 ?_
  refine j_iload_n hx 0 dX12_clears_33 rfl ?_
  refine j_iconst hx dX12_clears_34 ?_
  refine j_iast hx hG (zr (k := 13) (t2 := 76) hG ha rfl) (by decide) rfl (zlen hG (zr (k := 13) (t2 := 76) hG ha rfl) (n := 3) rfl rfl) (by omega) (by omega) (j := 0) rfl dX12_clears_35 ?_
  obtain ⟨s5, e_s5⟩ : ∃ z, z = zU s4 (gP G a 13) 0 0 := ⟨_, rfl⟩
  rw [← e_s5]
  have hS_s5 : zSK G s5 := by rw [e_s5]; exact zSK_A hS_s4 (zr (k := 13) (t2 := 76) hG ha rfl) rfl rfl rfl (by omega)
  refine j_aload_n hx 1 dX12_clears_36 rfl ?_
  refine g13_14 hx hG ha kf_RX12_35 dX12_clears_37 ?_
  refine j_iload_n hx 0 dX12_clears_40 rfl ?_
  refine j_iconst hx dX12_clears_41 ?_
  refine j_iast hx hG (zr (k := 14) (t2 := 77) hG ha rfl) (by decide) rfl (zlen hG (zr (k := 14) (t2 := 77) hG ha rfl) (n := 3) rfl rfl) (by omega) (by omega) (j := 0) rfl dX12_clears_42 ?_
  obtain ⟨s6, e_s6⟩ : ∃ z, z = zU s5 (gP G a 14) 0 0 := ⟨_, rfl⟩
  rw [← e_s6]
  have hS_s6 : zSK G s6 := by rw [e_s6]; exact zSK_A hS_s5 (zr (k := 14) (t2 := 77) hG ha rfl) rfl rfl rfl (by omega)
  refine j_aload_n hx 1 dX12_clears_43 rfl ?_
  refine g13_15 hx hG ha kf_RX12_38 dX12_clears_44 ?_
  refine j_iload_n hx 0 dX12_clears_47 rfl ?_
  refine j_iconst hx dX12_clears_48 ?_
  refine j_iast hx hG (zr (k := 15) (t2 := 78) hG ha rfl) (by decide) rfl (zlen hG (zr (k := 15) (t2 := 78) hG ha rfl) (n := 3) rfl rfl) (by omega) (by omega) (j := 0) rfl dX12_clears_49 ?_
  obtain ⟨s7, e_s7⟩ : ∃ z, z = zU s6 (gP G a 15) 0 0 := ⟨_, rfl⟩
  rw [← e_s7]
  have hS_s7 : zSK G s7 := by rw [e_s7]; exact zSK_A hS_s6 (zr (k := 15) (t2 := 78) hG ha rfl) rfl rfl rfl (by omega)
  refine j_iinc hx 0 [(1, .int (zI 1)), (0, .ref a)] dX12_clears_50 rfl (by omega) (by decide) rfl ?_
  refine j_goto hx 17 dX12_clears_53 rfl ?_
  refine j_iload_n hx 0 dX12_clears_17 rfl ?_
  refine j_iconst hx dX12_clears_18 ?_
  refine j_icmp_ge hx 56 dX12_clears_19 rfl ⟨by decide, by decide⟩ ⟨by decide, by decide⟩ (fun h2 => absurd h2 (by omega)) (fun h2 => ?_)
  refine j_aload_n hx 1 dX12_clears_22 rfl ?_
  refine g13_11 hx hG ha kf_RX12_26 dX12_clears_23 ?_
  refine j_iload_n hx 0 dX12_clears_26 rfl ?_
  refine j_iconst hx dX12_clears_27 ?_
  refine j_iast hx hG (zr (k := 11) (t2 := 74) hG ha rfl) (by decide) rfl (zlen hG (zr (k := 11) (t2 := 74) hG ha rfl) (n := 3) rfl rfl) (by omega) (by omega) (j := 1) rfl dX12_clears_28 ?_
  obtain ⟨s8, e_s8⟩ : ∃ z, z = zU s7 (gP G a 11) 1 5 := ⟨_, rfl⟩
  rw [← e_s8]
  have hS_s8 : zSK G s8 := by rw [e_s8]; exact zSK_A hS_s7 (zr (k := 11) (t2 := 74) hG ha rfl) rfl rfl rfl (by omega)
  refine j_aload_n hx 1 dX12_clears_29 rfl ?_
  refine g13_13 hx hG ha kf_RX12_32 dX12_clears_30 ?_
  refine j_iload_n hx 0 dX12_clears_33 rfl ?_
  refine j_iconst hx dX12_clears_34 ?_
  refine j_iast hx hG (zr (k := 13) (t2 := 76) hG ha rfl) (by decide) rfl (zlen hG (zr (k := 13) (t2 := 76) hG ha rfl) (n := 3) rfl rfl) (by omega) (by omega) (j := 1) rfl dX12_clears_35 ?_
  obtain ⟨s9, e_s9⟩ : ∃ z, z = zU s8 (gP G a 13) 1 0 := ⟨_, rfl⟩
  rw [← e_s9]
  have hS_s9 : zSK G s9 := by rw [e_s9]; exact zSK_A hS_s8 (zr (k := 13) (t2 := 76) hG ha rfl) rfl rfl rfl (by omega)
  refine j_aload_n hx 1 dX12_clears_36 rfl ?_
  refine g13_14 hx hG ha kf_RX12_35 dX12_clears_37 ?_
  refine j_iload_n hx 0 dX12_clears_40 rfl ?_
  refine j_iconst hx dX12_clears_41 ?_
  refine j_iast hx hG (zr (k := 14) (t2 := 77) hG ha rfl) (by decide) rfl (zlen hG (zr (k := 14) (t2 := 77) hG ha rfl) (n := 3) rfl rfl) (by omega) (by omega) (j := 1) rfl dX12_clears_42 ?_
  obtain ⟨s10, e_s10⟩ : ∃ z, z = zU s9 (gP G a 14) 1 0 := ⟨_, rfl⟩
  rw [← e_s10]
  have hS_s10 : zSK G s10 := by rw [e_s10]; exact zSK_A hS_s9 (zr (k := 14) (t2 := 77) hG ha rfl) rfl rfl rfl (by omega)
  refine j_aload_n hx 1 dX12_clears_43 rfl ?_
  refine g13_15 hx hG ha kf_RX12_38 dX12_clears_44 ?_
  refine j_iload_n hx 0 dX12_clears_47 rfl ?_
  refine j_iconst hx dX12_clears_48 ?_
  refine j_iast hx hG (zr (k := 15) (t2 := 78) hG ha rfl) (by decide) rfl (zlen hG (zr (k := 15) (t2 := 78) hG ha rfl) (n := 3) rfl rfl) (by omega) (by omega) (j := 1) rfl dX12_clears_49 ?_
  obtain ⟨s11, e_s11⟩ : ∃ z, z = zU s10 (gP G a 15) 1 0 := ⟨_, rfl⟩
  rw [← e_s11]
  have hS_s11 : zSK G s11 := by rw [e_s11]; exact zSK_A hS_s10 (zr (k := 15) (t2 := 78) hG ha rfl) rfl rfl rfl (by omega)
  refine j_iinc hx 0 [(1, .int (zI 2)), (0, .ref a)] dX12_clears_50 rfl (by omega) (by decide) rfl ?_
  refine j_goto hx 17 dX12_clears_53 rfl ?_
  refine j_iload_n hx 0 dX12_clears_17 rfl ?_
  refine j_iconst hx dX12_clears_18 ?_
  refine j_icmp_ge hx 56 dX12_clears_19 rfl ⟨by decide, by decide⟩ ⟨by decide, by decide⟩ (fun h3 => absurd h3 (by omega)) (fun h3 => ?_)
  refine j_aload_n hx 1 dX12_clears_22 rfl ?_
  refine g13_11 hx hG ha kf_RX12_26 dX12_clears_23 ?_
  refine j_iload_n hx 0 dX12_clears_26 rfl ?_
  refine j_iconst hx dX12_clears_27 ?_
  refine j_iast hx hG (zr (k := 11) (t2 := 74) hG ha rfl) (by decide) rfl (zlen hG (zr (k := 11) (t2 := 74) hG ha rfl) (n := 3) rfl rfl) (by omega) (by omega) (j := 2) rfl dX12_clears_28 ?_
  obtain ⟨s12, e_s12⟩ : ∃ z, z = zU s11 (gP G a 11) 2 5 := ⟨_, rfl⟩
  rw [← e_s12]
  have hS_s12 : zSK G s12 := by rw [e_s12]; exact zSK_A hS_s11 (zr (k := 11) (t2 := 74) hG ha rfl) rfl rfl rfl (by omega)
  refine j_aload_n hx 1 dX12_clears_29 rfl ?_
  refine g13_13 hx hG ha kf_RX12_32 dX12_clears_30 ?_
  refine j_iload_n hx 0 dX12_clears_33 rfl ?_
  refine j_iconst hx dX12_clears_34 ?_
  refine j_iast hx hG (zr (k := 13) (t2 := 76) hG ha rfl) (by decide) rfl (zlen hG (zr (k := 13) (t2 := 76) hG ha rfl) (n := 3) rfl rfl) (by omega) (by omega) (j := 2) rfl dX12_clears_35 ?_
  obtain ⟨s13, e_s13⟩ : ∃ z, z = zU s12 (gP G a 13) 2 0 := ⟨_, rfl⟩
  rw [← e_s13]
  have hS_s13 : zSK G s13 := by rw [e_s13]; exact zSK_A hS_s12 (zr (k := 13) (t2 := 76) hG ha rfl) rfl rfl rfl (by omega)
  refine j_aload_n hx 1 dX12_clears_36 rfl ?_
  refine g13_14 hx hG ha kf_RX12_35 dX12_clears_37 ?_
  refine j_iload_n hx 0 dX12_clears_40 rfl ?_
  refine j_iconst hx dX12_clears_41 ?_
  refine j_iast hx hG (zr (k := 14) (t2 := 77) hG ha rfl) (by decide) rfl (zlen hG (zr (k := 14) (t2 := 77) hG ha rfl) (n := 3) rfl rfl) (by omega) (by omega) (j := 2) rfl dX12_clears_42 ?_
  obtain ⟨s14, e_s14⟩ : ∃ z, z = zU s13 (gP G a 14) 2 0 := ⟨_, rfl⟩
  rw [← e_s14]
  have hS_s14 : zSK G s14 := by rw [e_s14]; exact zSK_A hS_s13 (zr (k := 14) (t2 := 77) hG ha rfl) rfl rfl rfl (by omega)
  refine j_aload_n hx 1 dX12_clears_43 rfl ?_
  refine g13_15 hx hG ha kf_RX12_38 dX12_clears_44 ?_
  refine j_iload_n hx 0 dX12_clears_47 rfl ?_
  refine j_iconst hx dX12_clears_48 ?_
  refine j_iast hx hG (zr (k := 15) (t2 := 78) hG ha rfl) (by decide) rfl (zlen hG (zr (k := 15) (t2 := 78) hG ha rfl) (n := 3) rfl rfl) (by omega) (by omega) (j := 2) rfl dX12_clears_49 ?_
  obtain ⟨s15, e_s15⟩ : ∃ z, z = zU s14 (gP G a 15) 2 0 := ⟨_, rfl⟩
  rw [← e_s15]
  have hS_s15 : zSK G s15 := by rw [e_s15]; exact zSK_A hS_s14 (zr (k := 15) (t2 := 78) hG ha rfl) rfl rfl rfl (by omega)
  refine j_iinc hx 0 [(1, .int (zI 3)), (0, .ref a)] dX12_clears_50 rfl (by omega) (by decide) rfl ?_
  refine j_goto hx 17 dX12_clears_53 rfl ?_
  refine j_iload_n hx 0 dX12_clears_17 rfl ?_
  refine j_iconst hx dX12_clears_18 ?_
  refine j_icmp_ge hx 56 dX12_clears_19 rfl ⟨by decide, by decide⟩ ⟨by decide, by decide⟩ (fun h4 => ?_) (fun h4 => absurd h4 (by omega))
  have g5 : s15 (gP G a 13) 0 = 0 := (by rw [e_s15, zU_at (Or.inl (zne (zr (k := 15) (t2 := 78) hG ha rfl) (zr (k := 13) (t2 := 76) hG ha rfl) (by decide))), e_s14, zU_at (Or.inl (zne (zr (k := 14) (t2 := 77) hG ha rfl) (zr (k := 13) (t2 := 76) hG ha rfl) (by decide))), e_s13, zU_at (Or.inr (by decide)), e_s12, zU_at (Or.inl (zne (zr (k := 11) (t2 := 74) hG ha rfl) (zr (k := 13) (t2 := 76) hG ha rfl) (by decide))), e_s11, zU_at (Or.inl (zne (zr (k := 15) (t2 := 78) hG ha rfl) (zr (k := 13) (t2 := 76) hG ha rfl) (by decide))), e_s10, zU_at (Or.inl (zne (zr (k := 14) (t2 := 77) hG ha rfl) (zr (k := 13) (t2 := 76) hG ha rfl) (by decide))), e_s9, zU_at (Or.inr (by decide)), e_s8, zU_at (Or.inl (zne (zr (k := 11) (t2 := 74) hG ha rfl) (zr (k := 13) (t2 := 76) hG ha rfl) (by decide))), e_s7, zU_at (Or.inl (zne (zr (k := 15) (t2 := 78) hG ha rfl) (zr (k := 13) (t2 := 76) hG ha rfl) (by decide))), e_s6, zU_at (Or.inl (zne (zr (k := 14) (t2 := 77) hG ha rfl) (zr (k := 13) (t2 := 76) hG ha rfl) (by decide))), e_s5, zU_eq])
  have g6 : s15 (gP G a 13) 1 = 0 := (by rw [e_s15, zU_at (Or.inl (zne (zr (k := 15) (t2 := 78) hG ha rfl) (zr (k := 13) (t2 := 76) hG ha rfl) (by decide))), e_s14, zU_at (Or.inl (zne (zr (k := 14) (t2 := 77) hG ha rfl) (zr (k := 13) (t2 := 76) hG ha rfl) (by decide))), e_s13, zU_at (Or.inr (by decide)), e_s12, zU_at (Or.inl (zne (zr (k := 11) (t2 := 74) hG ha rfl) (zr (k := 13) (t2 := 76) hG ha rfl) (by decide))), e_s11, zU_at (Or.inl (zne (zr (k := 15) (t2 := 78) hG ha rfl) (zr (k := 13) (t2 := 76) hG ha rfl) (by decide))), e_s10, zU_at (Or.inl (zne (zr (k := 14) (t2 := 77) hG ha rfl) (zr (k := 13) (t2 := 76) hG ha rfl) (by decide))), e_s9, zU_eq])
  have g7 : s15 (gP G a 13) 2 = 0 := (by rw [e_s15, zU_at (Or.inl (zne (zr (k := 15) (t2 := 78) hG ha rfl) (zr (k := 13) (t2 := 76) hG ha rfl) (by decide))), e_s14, zU_at (Or.inl (zne (zr (k := 14) (t2 := 77) hG ha rfl) (zr (k := 13) (t2 := 76) hG ha rfl) (by decide))), e_s13, zU_eq])
  have g8 : s15 a 21 = 0 := (by rw [e_s15, zU_at (Or.inl (zne (zr (k := 15) (t2 := 78) hG ha rfl) ha (by decide))), e_s14, zU_at (Or.inl (zne (zr (k := 14) (t2 := 77) hG ha rfl) ha (by decide))), e_s13, zU_at (Or.inl (zne (zr (k := 13) (t2 := 76) hG ha rfl) ha (by decide))), e_s12, zU_at (Or.inl (zne (zr (k := 11) (t2 := 74) hG ha rfl) ha (by decide))), e_s11, zU_at (Or.inl (zne (zr (k := 15) (t2 := 78) hG ha rfl) ha (by decide))), e_s10, zU_at (Or.inl (zne (zr (k := 14) (t2 := 77) hG ha rfl) ha (by decide))), e_s9, zU_at (Or.inl (zne (zr (k := 13) (t2 := 76) hG ha rfl) ha (by decide))), e_s8, zU_at (Or.inl (zne (zr (k := 11) (t2 := 74) hG ha rfl) ha (by decide))), e_s7, zU_at (Or.inl (zne (zr (k := 15) (t2 := 78) hG ha rfl) ha (by decide))), e_s6, zU_at (Or.inl (zne (zr (k := 14) (t2 := 77) hG ha rfl) ha (by decide))), e_s5, zU_at (Or.inl (zne (zr (k := 13) (t2 := 76) hG ha rfl) ha (by decide))), e_s4, zU_at (Or.inl (zne (zr (k := 11) (t2 := 74) hG ha rfl) ha (by decide))), e_s3, zU_at (Or.inr (by decide)), e_s2, zU_at (Or.inr (by decide)), e_s1, zU_eq])
  have g9 : s15 a 22 = 0 := (by rw [e_s15, zU_at (Or.inl (zne (zr (k := 15) (t2 := 78) hG ha rfl) ha (by decide))), e_s14, zU_at (Or.inl (zne (zr (k := 14) (t2 := 77) hG ha rfl) ha (by decide))), e_s13, zU_at (Or.inl (zne (zr (k := 13) (t2 := 76) hG ha rfl) ha (by decide))), e_s12, zU_at (Or.inl (zne (zr (k := 11) (t2 := 74) hG ha rfl) ha (by decide))), e_s11, zU_at (Or.inl (zne (zr (k := 15) (t2 := 78) hG ha rfl) ha (by decide))), e_s10, zU_at (Or.inl (zne (zr (k := 14) (t2 := 77) hG ha rfl) ha (by decide))), e_s9, zU_at (Or.inl (zne (zr (k := 13) (t2 := 76) hG ha rfl) ha (by decide))), e_s8, zU_at (Or.inl (zne (zr (k := 11) (t2 := 74) hG ha rfl) ha (by decide))), e_s7, zU_at (Or.inl (zne (zr (k := 15) (t2 := 78) hG ha rfl) ha (by decide))), e_s6, zU_at (Or.inl (zne (zr (k := 14) (t2 := 77) hG ha rfl) ha (by decide))), e_s5, zU_at (Or.inl (zne (zr (k := 13) (t2 := 76) hG ha rfl) ha (by decide))), e_s4, zU_at (Or.inl (zne (zr (k := 11) (t2 := 74) hG ha rfl) ha (by decide))), e_s3, zU_at (Or.inr (by decide)), e_s2, zU_eq])
  have g10 : s15 a 23 = 0 := (by rw [e_s15, zU_at (Or.inl (zne (zr (k := 15) (t2 := 78) hG ha rfl) ha (by decide))), e_s14, zU_at (Or.inl (zne (zr (k := 14) (t2 := 77) hG ha rfl) ha (by decide))), e_s13, zU_at (Or.inl (zne (zr (k := 13) (t2 := 76) hG ha rfl) ha (by decide))), e_s12, zU_at (Or.inl (zne (zr (k := 11) (t2 := 74) hG ha rfl) ha (by decide))), e_s11, zU_at (Or.inl (zne (zr (k := 15) (t2 := 78) hG ha rfl) ha (by decide))), e_s10, zU_at (Or.inl (zne (zr (k := 14) (t2 := 77) hG ha rfl) ha (by decide))), e_s9, zU_at (Or.inl (zne (zr (k := 13) (t2 := 76) hG ha rfl) ha (by decide))), e_s8, zU_at (Or.inl (zne (zr (k := 11) (t2 := 74) hG ha rfl) ha (by decide))), e_s7, zU_at (Or.inl (zne (zr (k := 15) (t2 := 78) hG ha rfl) ha (by decide))), e_s6, zU_at (Or.inl (zne (zr (k := 14) (t2 := 77) hG ha rfl) ha (by decide))), e_s5, zU_at (Or.inl (zne (zr (k := 13) (t2 := 76) hG ha rfl) ha (by decide))), e_s4, zU_at (Or.inl (zne (zr (k := 11) (t2 := 74) hG ha rfl) ha (by decide))), e_s3, zU_eq])
  have g11 : s15 a 0 = s0 a 0 := (by rw [e_s15, zU_at (Or.inl (zne (zr (k := 15) (t2 := 78) hG ha rfl) ha (by decide))), e_s14, zU_at (Or.inl (zne (zr (k := 14) (t2 := 77) hG ha rfl) ha (by decide))), e_s13, zU_at (Or.inl (zne (zr (k := 13) (t2 := 76) hG ha rfl) ha (by decide))), e_s12, zU_at (Or.inl (zne (zr (k := 11) (t2 := 74) hG ha rfl) ha (by decide))), e_s11, zU_at (Or.inl (zne (zr (k := 15) (t2 := 78) hG ha rfl) ha (by decide))), e_s10, zU_at (Or.inl (zne (zr (k := 14) (t2 := 77) hG ha rfl) ha (by decide))), e_s9, zU_at (Or.inl (zne (zr (k := 13) (t2 := 76) hG ha rfl) ha (by decide))), e_s8, zU_at (Or.inl (zne (zr (k := 11) (t2 := 74) hG ha rfl) ha (by decide))), e_s7, zU_at (Or.inl (zne (zr (k := 15) (t2 := 78) hG ha rfl) ha (by decide))), e_s6, zU_at (Or.inl (zne (zr (k := 14) (t2 := 77) hG ha rfl) ha (by decide))), e_s5, zU_at (Or.inl (zne (zr (k := 13) (t2 := 76) hG ha rfl) ha (by decide))), e_s4, zU_at (Or.inl (zne (zr (k := 11) (t2 := 74) hG ha rfl) ha (by decide))), e_s3, zU_at (Or.inr (by decide)), e_s2, zU_at (Or.inr (by decide)), e_s1, zU_at (Or.inr (by decide))])
  have f12 := zf hS0 ha (k := 0) rfl
  have g13 : s15 a 3 = s0 a 3 := (by rw [e_s15, zU_at (Or.inl (zne (zr (k := 15) (t2 := 78) hG ha rfl) ha (by decide))), e_s14, zU_at (Or.inl (zne (zr (k := 14) (t2 := 77) hG ha rfl) ha (by decide))), e_s13, zU_at (Or.inl (zne (zr (k := 13) (t2 := 76) hG ha rfl) ha (by decide))), e_s12, zU_at (Or.inl (zne (zr (k := 11) (t2 := 74) hG ha rfl) ha (by decide))), e_s11, zU_at (Or.inl (zne (zr (k := 15) (t2 := 78) hG ha rfl) ha (by decide))), e_s10, zU_at (Or.inl (zne (zr (k := 14) (t2 := 77) hG ha rfl) ha (by decide))), e_s9, zU_at (Or.inl (zne (zr (k := 13) (t2 := 76) hG ha rfl) ha (by decide))), e_s8, zU_at (Or.inl (zne (zr (k := 11) (t2 := 74) hG ha rfl) ha (by decide))), e_s7, zU_at (Or.inl (zne (zr (k := 15) (t2 := 78) hG ha rfl) ha (by decide))), e_s6, zU_at (Or.inl (zne (zr (k := 14) (t2 := 77) hG ha rfl) ha (by decide))), e_s5, zU_at (Or.inl (zne (zr (k := 13) (t2 := 76) hG ha rfl) ha (by decide))), e_s4, zU_at (Or.inl (zne (zr (k := 11) (t2 := 74) hG ha rfl) ha (by decide))), e_s3, zU_at (Or.inr (by decide)), e_s2, zU_at (Or.inr (by decide)), e_s1, zU_at (Or.inr (by decide))])
  have f14 := zf hS0 ha (k := 3) rfl
  have g15 : s15 a 4 = s0 a 4 := (by rw [e_s15, zU_at (Or.inl (zne (zr (k := 15) (t2 := 78) hG ha rfl) ha (by decide))), e_s14, zU_at (Or.inl (zne (zr (k := 14) (t2 := 77) hG ha rfl) ha (by decide))), e_s13, zU_at (Or.inl (zne (zr (k := 13) (t2 := 76) hG ha rfl) ha (by decide))), e_s12, zU_at (Or.inl (zne (zr (k := 11) (t2 := 74) hG ha rfl) ha (by decide))), e_s11, zU_at (Or.inl (zne (zr (k := 15) (t2 := 78) hG ha rfl) ha (by decide))), e_s10, zU_at (Or.inl (zne (zr (k := 14) (t2 := 77) hG ha rfl) ha (by decide))), e_s9, zU_at (Or.inl (zne (zr (k := 13) (t2 := 76) hG ha rfl) ha (by decide))), e_s8, zU_at (Or.inl (zne (zr (k := 11) (t2 := 74) hG ha rfl) ha (by decide))), e_s7, zU_at (Or.inl (zne (zr (k := 15) (t2 := 78) hG ha rfl) ha (by decide))), e_s6, zU_at (Or.inl (zne (zr (k := 14) (t2 := 77) hG ha rfl) ha (by decide))), e_s5, zU_at (Or.inl (zne (zr (k := 13) (t2 := 76) hG ha rfl) ha (by decide))), e_s4, zU_at (Or.inl (zne (zr (k := 11) (t2 := 74) hG ha rfl) ha (by decide))), e_s3, zU_at (Or.inr (by decide)), e_s2, zU_at (Or.inr (by decide)), e_s1, zU_at (Or.inr (by decide))])
  have f16 := zf hS0 ha (k := 4) rfl
  have g17 : s15 a 5 = s0 a 5 := (by rw [e_s15, zU_at (Or.inl (zne (zr (k := 15) (t2 := 78) hG ha rfl) ha (by decide))), e_s14, zU_at (Or.inl (zne (zr (k := 14) (t2 := 77) hG ha rfl) ha (by decide))), e_s13, zU_at (Or.inl (zne (zr (k := 13) (t2 := 76) hG ha rfl) ha (by decide))), e_s12, zU_at (Or.inl (zne (zr (k := 11) (t2 := 74) hG ha rfl) ha (by decide))), e_s11, zU_at (Or.inl (zne (zr (k := 15) (t2 := 78) hG ha rfl) ha (by decide))), e_s10, zU_at (Or.inl (zne (zr (k := 14) (t2 := 77) hG ha rfl) ha (by decide))), e_s9, zU_at (Or.inl (zne (zr (k := 13) (t2 := 76) hG ha rfl) ha (by decide))), e_s8, zU_at (Or.inl (zne (zr (k := 11) (t2 := 74) hG ha rfl) ha (by decide))), e_s7, zU_at (Or.inl (zne (zr (k := 15) (t2 := 78) hG ha rfl) ha (by decide))), e_s6, zU_at (Or.inl (zne (zr (k := 14) (t2 := 77) hG ha rfl) ha (by decide))), e_s5, zU_at (Or.inl (zne (zr (k := 13) (t2 := 76) hG ha rfl) ha (by decide))), e_s4, zU_at (Or.inl (zne (zr (k := 11) (t2 := 74) hG ha rfl) ha (by decide))), e_s3, zU_at (Or.inr (by decide)), e_s2, zU_at (Or.inr (by decide)), e_s1, zU_at (Or.inr (by decide))])
  have f18 := zf hS0 ha (k := 5) rfl
  have g19 : s15 a 7 = s0 a 7 := (by rw [e_s15, zU_at (Or.inl (zne (zr (k := 15) (t2 := 78) hG ha rfl) ha (by decide))), e_s14, zU_at (Or.inl (zne (zr (k := 14) (t2 := 77) hG ha rfl) ha (by decide))), e_s13, zU_at (Or.inl (zne (zr (k := 13) (t2 := 76) hG ha rfl) ha (by decide))), e_s12, zU_at (Or.inl (zne (zr (k := 11) (t2 := 74) hG ha rfl) ha (by decide))), e_s11, zU_at (Or.inl (zne (zr (k := 15) (t2 := 78) hG ha rfl) ha (by decide))), e_s10, zU_at (Or.inl (zne (zr (k := 14) (t2 := 77) hG ha rfl) ha (by decide))), e_s9, zU_at (Or.inl (zne (zr (k := 13) (t2 := 76) hG ha rfl) ha (by decide))), e_s8, zU_at (Or.inl (zne (zr (k := 11) (t2 := 74) hG ha rfl) ha (by decide))), e_s7, zU_at (Or.inl (zne (zr (k := 15) (t2 := 78) hG ha rfl) ha (by decide))), e_s6, zU_at (Or.inl (zne (zr (k := 14) (t2 := 77) hG ha rfl) ha (by decide))), e_s5, zU_at (Or.inl (zne (zr (k := 13) (t2 := 76) hG ha rfl) ha (by decide))), e_s4, zU_at (Or.inl (zne (zr (k := 11) (t2 := 74) hG ha rfl) ha (by decide))), e_s3, zU_at (Or.inr (by decide)), e_s2, zU_at (Or.inr (by decide)), e_s1, zU_at (Or.inr (by decide))])
  have f20 := zf hS0 ha (k := 7) rfl
  have g21 : s15 a 24 = s0 a 24 := (by rw [e_s15, zU_at (Or.inl (zne (zr (k := 15) (t2 := 78) hG ha rfl) ha (by decide))), e_s14, zU_at (Or.inl (zne (zr (k := 14) (t2 := 77) hG ha rfl) ha (by decide))), e_s13, zU_at (Or.inl (zne (zr (k := 13) (t2 := 76) hG ha rfl) ha (by decide))), e_s12, zU_at (Or.inl (zne (zr (k := 11) (t2 := 74) hG ha rfl) ha (by decide))), e_s11, zU_at (Or.inl (zne (zr (k := 15) (t2 := 78) hG ha rfl) ha (by decide))), e_s10, zU_at (Or.inl (zne (zr (k := 14) (t2 := 77) hG ha rfl) ha (by decide))), e_s9, zU_at (Or.inl (zne (zr (k := 13) (t2 := 76) hG ha rfl) ha (by decide))), e_s8, zU_at (Or.inl (zne (zr (k := 11) (t2 := 74) hG ha rfl) ha (by decide))), e_s7, zU_at (Or.inl (zne (zr (k := 15) (t2 := 78) hG ha rfl) ha (by decide))), e_s6, zU_at (Or.inl (zne (zr (k := 14) (t2 := 77) hG ha rfl) ha (by decide))), e_s5, zU_at (Or.inl (zne (zr (k := 13) (t2 := 76) hG ha rfl) ha (by decide))), e_s4, zU_at (Or.inl (zne (zr (k := 11) (t2 := 74) hG ha rfl) ha (by decide))), e_s3, zU_at (Or.inr (by decide)), e_s2, zU_at (Or.inr (by decide)), e_s1, zU_at (Or.inr (by decide))])
  have f22 := zf hS0 ha (k := 24) rfl
  have g23 : s15 a 38 = s0 a 38 := (by rw [e_s15, zU_at (Or.inl (zne (zr (k := 15) (t2 := 78) hG ha rfl) ha (by decide))), e_s14, zU_at (Or.inl (zne (zr (k := 14) (t2 := 77) hG ha rfl) ha (by decide))), e_s13, zU_at (Or.inl (zne (zr (k := 13) (t2 := 76) hG ha rfl) ha (by decide))), e_s12, zU_at (Or.inl (zne (zr (k := 11) (t2 := 74) hG ha rfl) ha (by decide))), e_s11, zU_at (Or.inl (zne (zr (k := 15) (t2 := 78) hG ha rfl) ha (by decide))), e_s10, zU_at (Or.inl (zne (zr (k := 14) (t2 := 77) hG ha rfl) ha (by decide))), e_s9, zU_at (Or.inl (zne (zr (k := 13) (t2 := 76) hG ha rfl) ha (by decide))), e_s8, zU_at (Or.inl (zne (zr (k := 11) (t2 := 74) hG ha rfl) ha (by decide))), e_s7, zU_at (Or.inl (zne (zr (k := 15) (t2 := 78) hG ha rfl) ha (by decide))), e_s6, zU_at (Or.inl (zne (zr (k := 14) (t2 := 77) hG ha rfl) ha (by decide))), e_s5, zU_at (Or.inl (zne (zr (k := 13) (t2 := 76) hG ha rfl) ha (by decide))), e_s4, zU_at (Or.inl (zne (zr (k := 11) (t2 := 74) hG ha rfl) ha (by decide))), e_s3, zU_at (Or.inr (by decide)), e_s2, zU_at (Or.inr (by decide)), e_s1, zU_at (Or.inr (by decide))])
  have f24 := zf hS0 ha (k := 38) rfl
  have g25 : s15 a 51 = s0 a 51 := (by rw [e_s15, zU_at (Or.inl (zne (zr (k := 15) (t2 := 78) hG ha rfl) ha (by decide))), e_s14, zU_at (Or.inl (zne (zr (k := 14) (t2 := 77) hG ha rfl) ha (by decide))), e_s13, zU_at (Or.inl (zne (zr (k := 13) (t2 := 76) hG ha rfl) ha (by decide))), e_s12, zU_at (Or.inl (zne (zr (k := 11) (t2 := 74) hG ha rfl) ha (by decide))), e_s11, zU_at (Or.inl (zne (zr (k := 15) (t2 := 78) hG ha rfl) ha (by decide))), e_s10, zU_at (Or.inl (zne (zr (k := 14) (t2 := 77) hG ha rfl) ha (by decide))), e_s9, zU_at (Or.inl (zne (zr (k := 13) (t2 := 76) hG ha rfl) ha (by decide))), e_s8, zU_at (Or.inl (zne (zr (k := 11) (t2 := 74) hG ha rfl) ha (by decide))), e_s7, zU_at (Or.inl (zne (zr (k := 15) (t2 := 78) hG ha rfl) ha (by decide))), e_s6, zU_at (Or.inl (zne (zr (k := 14) (t2 := 77) hG ha rfl) ha (by decide))), e_s5, zU_at (Or.inl (zne (zr (k := 13) (t2 := 76) hG ha rfl) ha (by decide))), e_s4, zU_at (Or.inl (zne (zr (k := 11) (t2 := 74) hG ha rfl) ha (by decide))), e_s3, zU_at (Or.inr (by decide)), e_s2, zU_at (Or.inr (by decide)), e_s1, zU_at (Or.inr (by decide))])
  have f26 := zf hS0 ha (k := 51) rfl
  have g27 : s15 a 52 = s0 a 52 := (by rw [e_s15, zU_at (Or.inl (zne (zr (k := 15) (t2 := 78) hG ha rfl) ha (by decide))), e_s14, zU_at (Or.inl (zne (zr (k := 14) (t2 := 77) hG ha rfl) ha (by decide))), e_s13, zU_at (Or.inl (zne (zr (k := 13) (t2 := 76) hG ha rfl) ha (by decide))), e_s12, zU_at (Or.inl (zne (zr (k := 11) (t2 := 74) hG ha rfl) ha (by decide))), e_s11, zU_at (Or.inl (zne (zr (k := 15) (t2 := 78) hG ha rfl) ha (by decide))), e_s10, zU_at (Or.inl (zne (zr (k := 14) (t2 := 77) hG ha rfl) ha (by decide))), e_s9, zU_at (Or.inl (zne (zr (k := 13) (t2 := 76) hG ha rfl) ha (by decide))), e_s8, zU_at (Or.inl (zne (zr (k := 11) (t2 := 74) hG ha rfl) ha (by decide))), e_s7, zU_at (Or.inl (zne (zr (k := 15) (t2 := 78) hG ha rfl) ha (by decide))), e_s6, zU_at (Or.inl (zne (zr (k := 14) (t2 := 77) hG ha rfl) ha (by decide))), e_s5, zU_at (Or.inl (zne (zr (k := 13) (t2 := 76) hG ha rfl) ha (by decide))), e_s4, zU_at (Or.inl (zne (zr (k := 11) (t2 := 74) hG ha rfl) ha (by decide))), e_s3, zU_at (Or.inr (by decide)), e_s2, zU_at (Or.inr (by decide)), e_s1, zU_at (Or.inr (by decide))])
  have f28 := zf hS0 ha (k := 52) rfl
  exact j_vret hx hq rfl (by decide) (by decide) dX12_clears_56 ⟨rfl, rfl, hS_s15, (zFr_u (zFr_u (zFr_u (zFr_u (zFr_u (zFr_u (zFr_u (zFr_u (zFr_u (zFr_u (zFr_u (zFr_u (zFr_u (zFr_u (zFr_u zFr_rf e_s1 ha (by decide)) e_s2 ha (by decide)) e_s3 ha (by decide)) e_s4 (zr (k := 11) (t2 := 74) hG ha rfl) (by decide)) e_s5 (zr (k := 13) (t2 := 76) hG ha rfl) (by decide)) e_s6 (zr (k := 14) (t2 := 77) hG ha rfl) (by decide)) e_s7 (zr (k := 15) (t2 := 78) hG ha rfl) (by decide)) e_s8 (zr (k := 11) (t2 := 74) hG ha rfl) (by decide)) e_s9 (zr (k := 13) (t2 := 76) hG ha rfl) (by decide)) e_s10 (zr (k := 14) (t2 := 77) hG ha rfl) (by decide)) e_s11 (zr (k := 15) (t2 := 78) hG ha rfl) (by decide)) e_s12 (zr (k := 11) (t2 := 74) hG ha rfl) (by decide)) e_s13 (zr (k := 13) (t2 := 76) hG ha rfl) (by decide)) e_s14 (zr (k := 14) (t2 := 77) hG ha rfl) (by decide)) e_s15 (zr (k := 15) (t2 := 78) hG ha rfl) (by decide)), ⟨by omega, by omega, by omega, by omega, by omega, by omega, by omega, by omega, by omega, by omega, by omega, by omega, by omega⟩⟩

set_option maxHeartbeats 1200000 in
set_option maxRecDepth 20000 in
theorem c_X12_fine {E : zE} {l : Launch} (hst : l.stackTraces = false) (a : Nat) : Con E l yX12_fine cX12_fine 1 (some .boolean) { frames := 0, cells := 0, slots := 0, locals := 0 } (fun G s vs => vs = [.ref a] ∧ zGK G ∧ zSK G s ∧ (gT G a = 13)) (fun G s _ => pI (fun r G2 s2 => G2 = G ∧ s2 = s ∧ (0 ≤ r ∧ r ≤ 1) ∧ ((r = 1 → s a 5 = -1) ∧ (r = 0 → 0 ≤ s a 5)))) := by
  refine Con.mk hst (by decide) (fun G s vs h => by rw [h.1]; exact Nat.le_of_ble_eq_true rfl) ?_
  rintro X G s0 vs ⟨rfl, hG, hS0, ha⟩ rfl hx hq
  show JJ X E 1 G s0 0 0 [(0, .ref a)] 0 []
  refine j_aload_n hx 0 dX12_fine_0 rfl ?_
  have f1 := zf hS0 ha (k := 5) rfl
  refine g13_5 hx hG ha kf_RX12_137 rfl dX12_fine_1 ?_
  refine j_iconst hx dX12_fine_4 ?_
  refine j_icmp_ne hx 12 dX12_fine_5 rfl (by omega) ⟨by decide, by decide⟩ (fun h2 => ?_) (fun h2 => ?_)
  · skip
    refine j_iconst hx dX12_fine_12 ?_
    exact j_zret hx hq rfl (by decide) (by decide) dX12_fine_13 (by omega) ⟨0, rfl, rfl, rfl, ⟨(by omega), by omega⟩⟩
  · skip
    refine j_iconst hx dX12_fine_8 ?_
    refine j_goto hx 13 dX12_fine_9 rfl ?_
    exact j_zret hx hq rfl (by decide) (by decide) dX12_fine_13 (by omega) ⟨1, rfl, rfl, rfl, ⟨(by omega), by omega⟩⟩

set_option maxHeartbeats 1200000 in
set_option maxRecDepth 20000 in
theorem c_X12_here {E : zE} {l : Launch} (hst : l.stackTraces = false) (a : Nat) : Con E l yX12_here cX12_here 1 (some .int) { frames := 0, cells := 0, slots := 0, locals := 0 } (fun G s vs => vs = [.ref a] ∧ zGK G ∧ zSK G s ∧ (gT G a = 13) ∧ (s a 4 ≤ s a 3 + 2)) (fun G s _ => pI (fun r G2 s2 => G2 = G ∧ zSK G s2 ∧ zFr [13] G s s2 ∧ (0 ≤ r ∧ r ≤ 255) ∧ s a 4 ≤ s2 a 4 ∧ (r ≠ 0 → s2 a 4 < s a 3) ∧ s2 a 4 ≤ s a 3 + 2 ∧ s2 a 0 = s a 0 ∧ s2 a 3 = s a 3 ∧ s2 a 5 = s a 5 ∧ s2 a 7 = s a 7 ∧ s2 a 21 = s a 21 ∧ s2 a 22 = s a 22 ∧ s2 a 23 = s a 23 ∧ s2 a 24 = s a 24 ∧ s2 a 38 = s a 38 ∧ s2 a 51 = s a 51 ∧ s2 a 52 = s a 52)) := by
  refine Con.mk hst (by decide) (fun G s vs h => by rw [h.1]; exact Nat.le_of_ble_eq_true rfl) ?_
  rintro X G s0 vs ⟨rfl, hG, hS0, ha, e0⟩ rfl hx hq
  show JJ X E 1 G s0 0 0 [(0, .ref a)] 0 []
  have f1 := zf hS0 ha (k := 0) rfl
  have f2 := zf hS0 ha (k := 3) rfl
  have f3 := zf hS0 ha (k := 5) rfl
  have f4 := zf hS0 ha (k := 7) rfl
  have f5 := zf hS0 ha (k := 21) rfl
  have f6 := zf hS0 ha (k := 22) rfl
  have f7 := zf hS0 ha (k := 23) rfl
  have f8 := zf hS0 ha (k := 24) rfl
  have f9 := zf hS0 ha (k := 38) rfl
  have f10 := zf hS0 ha (k := 51) rfl
  have f11 := zf hS0 ha (k := 52) rfl
  have f12 := zf hS0 ha (k := 4) rfl
  have c0_1 : ∀ (m_c0_1 : Nat) (s2 : zS), 1000 - s2 a 4 < m_c0_1 → (zSK G s2) → (zFr [13] G s0 s2) → (s2 a 0 = s0 a 0) → (s2 a 3 = s0 a 3) → (s2 a 5 = s0 a 5) → (s2 a 7 = s0 a 7) → (s2 a 21 = s0 a 21) → (s2 a 22 = s0 a 22) → (s2 a 23 = s0 a 23) → (s2 a 24 = s0 a 24) → (s2 a 38 = s0 a 38) → (s2 a 51 = s0 a 51) → (s2 a 52 = s0 a 52) → (s0 a 4 ≤ s2 a 4) → (s2 a 4 ≤ s2 a 3 + 2) → JJ X E 1 G s2 0 0 [(0, .ref a)] 0 [] := by
    intro m_c0_1
    induction m_c0_1 with
    | zero => intro s2 hm_c0_1 hS_s2 hF_s2 fA5 fA6 fA7 fA8 fA9 fA10 fA11 fA12 fA13 fA14 fA15 fA16 fA17; exfalso; omega
    | succ m_c0_1 ih_c0_1 => 
      intro s2 hm_c0_1 hS_s2 hF_s2 fA5 fA6 fA7 fA8 fA9 fA10 fA11 fA12 fA13 fA14 fA15 fA16 fA17
      refine j_aload_n hx 0 dX12_here_0 rfl ?_
      have f13 := zf hS_s2 ha (k := 4) rfl
      refine g13_4 hx hG ha kf_RX12_143 rfl dX12_here_1 ?_
      refine j_aload_n hx 0 dX12_here_4 rfl ?_
      have f14 := zf hS_s2 ha (k := 3) rfl
      refine g13_3 hx hG ha kf_RX12_146 rfl dX12_here_5 ?_
      have c38_18 : JJ X E 1 G s2 0 0 [(0, .ref a)] 38 [] := by
        refine j_aload_n hx 0 dX12_here_38 rfl ?_
        refine g13_4 hx hG ha kf_RX12_143 rfl dX12_here_39 ?_
        refine j_aload_n hx 0 dX12_here_42 rfl ?_
        refine g13_3 hx hG ha kf_RX12_146 rfl dX12_here_43 ?_
        refine j_icmp_ge hx 61 dX12_here_46 rfl (by omega) (by omega) (fun h15 => ?_) (fun h15 => ?_)
        · skip
          refine j_iconst hx dX12_here_61 ?_
          have f16 := zf hS_s2 ha (k := 0) rfl
          have f17 := zf hS_s2 ha (k := 5) rfl
          have f18 := zf hS_s2 ha (k := 7) rfl
          have f19 := zf hS_s2 ha (k := 21) rfl
          have f20 := zf hS_s2 ha (k := 22) rfl
          have f21 := zf hS_s2 ha (k := 23) rfl
          have f22 := zf hS_s2 ha (k := 24) rfl
          have f23 := zf hS_s2 ha (k := 38) rfl
          have f24 := zf hS_s2 ha (k := 51) rfl
          have f25 := zf hS_s2 ha (k := 52) rfl
          exact j_iret hx hq rfl (by decide) (by decide) dX12_here_62 ⟨0, rfl, rfl, hS_s2, (zFr_t zFr_rf hF_s2 (by decide)), ⟨(by omega), by omega, by omega, by omega, by omega, by omega, by omega, by omega, by omega, by omega, by omega, by omega, by omega, by omega, by omega⟩⟩
        · skip
          refine j_aload_n hx 0 dX12_here_49 rfl ?_
          refine g13_9 hx hG ha kf_RX12_20 dX12_here_50 ?_
          refine j_aload_n hx 0 dX12_here_53 rfl ?_
          refine g13_4 hx hG ha kf_RX12_143 rfl dX12_here_54 ?_
          have f26 := zaI (j := ((s2 a 4)).toNat) hS0 (zr (k := 9) (t2 := 72) hG ha rfl) rfl (zlen hG (zr (k := 9) (t2 := 72) hG ha rfl) (n := 600) rfl rfl) (show 0 ≤ (s2 a 4) by omega) (by omega) rfl
          refine j_iald hx hG (zr (k := 9) (t2 := 72) hG ha rfl) (by decide) rfl (zlen hG (zr (k := 9) (t2 := 72) hG ha rfl) (n := 600) rfl rfl) (by omega) (by omega) (j := ((s2 a 4)).toNat) rfl (v := (s0 (gP G a 9) ((s2 a 4)).toNat)) (by rw [(zFr_g hF_s2 (zr (k := 9) (t2 := 72) hG ha rfl) (by decide))]) dX12_here_57 ?_
          refine j_goto hx 62 dX12_here_58 rfl ?_
          have f27 := zf hS_s2 ha (k := 0) rfl
          have f28 := zf hS_s2 ha (k := 5) rfl
          have f29 := zf hS_s2 ha (k := 7) rfl
          have f30 := zf hS_s2 ha (k := 21) rfl
          have f31 := zf hS_s2 ha (k := 22) rfl
          have f32 := zf hS_s2 ha (k := 23) rfl
          have f33 := zf hS_s2 ha (k := 24) rfl
          have f34 := zf hS_s2 ha (k := 38) rfl
          have f35 := zf hS_s2 ha (k := 51) rfl
          have f36 := zf hS_s2 ha (k := 52) rfl
          exact j_iret hx hq rfl (by decide) (by decide) dX12_here_62 ⟨(s0 (gP G a 9) ((s2 a 4)).toNat), rfl, rfl, hS_s2, (zFr_t zFr_rf hF_s2 (by decide)), ⟨(by omega), by omega, by omega, by omega, by omega, by omega, by omega, by omega, by omega, by omega, by omega, by omega, by omega, by omega, by omega⟩⟩
      refine j_icmp_ge hx 38 dX12_here_8 rfl (by omega) (by omega) (fun h37 => ?_) (fun h37 => ?_)
      · skip
        exact j_sub [0] [(0, .ref a)] rfl (c38_18  )
      · skip
        refine j_aload_n hx 0 dX12_here_11 rfl ?_
        refine g13_9 hx hG ha kf_RX12_20 dX12_here_12 ?_
        refine j_aload_n hx 0 dX12_here_15 rfl ?_
        refine g13_4 hx hG ha kf_RX12_143 rfl dX12_here_16 ?_
        have f38 := zaI (j := ((s2 a 4)).toNat) hS0 (zr (k := 9) (t2 := 72) hG ha rfl) rfl (zlen hG (zr (k := 9) (t2 := 72) hG ha rfl) (n := 600) rfl rfl) (show 0 ≤ (s2 a 4) by omega) (by omega) rfl
        refine j_iald hx hG (zr (k := 9) (t2 := 72) hG ha rfl) (by decide) rfl (zlen hG (zr (k := 9) (t2 := 72) hG ha rfl) (n := 600) rfl rfl) (by omega) (by omega) (j := ((s2 a 4)).toNat) rfl (v := (s0 (gP G a 9) ((s2 a 4)).toNat)) (by rw [(zFr_g hF_s2 (zr (k := 9) (t2 := 72) hG ha rfl) (by decide))]) dX12_here_19 ?_
        refine j_bipush hx dX12_here_20 rfl ?_
        refine j_icmp_ne hx 38 dX12_here_22 rfl (by omega) ⟨by decide, by decide⟩ (fun h39 => ?_) (fun h39 => ?_)
        · skip
          exact j_sub [0] [(0, .ref a)] rfl (c38_18  )
        · skip
          refine j_aload_n hx 0 dX12_here_25 rfl ?_
          refine j_dup hx dX12_here_26 rfl ?_
          refine g13_4 hx hG ha kf_RX12_143 rfl dX12_here_27 ?_
          refine j_iconst hx dX12_here_30 ?_
          refine j_iadd hx (r := (s2 a 4) + 1) dX12_here_31 (by omega) ?_
          refine p13_4 hx hG ha kf_RX12_143 dX12_here_32 ?_
          obtain ⟨s19, e_s19⟩ : ∃ z, z = zU s2 a 4 ((s2 a 4) + 1) := ⟨_, rfl⟩
          rw [← e_s19]
          have hS_s19 : zSK G s19 := by rw [e_s19]; exact zSK_F hS_s2 ha rfl rfl rfl (by omega)
          refine j_goto hx 0 dX12_here_35 rfl ?_
          have g40 : s19 a 4 = (s2 a 4) + 1 := (by rw [e_s19, zU_eq])
          have g41 : s19 a 0 = s2 a 0 := (by rw [e_s19, zU_at (Or.inr (by decide))])
          have f42 := zf hS_s2 ha (k := 0) rfl
          have g43 : s19 a 3 = s2 a 3 := (by rw [e_s19, zU_at (Or.inr (by decide))])
          have g44 : s19 a 5 = s2 a 5 := (by rw [e_s19, zU_at (Or.inr (by decide))])
          have f45 := zf hS_s2 ha (k := 5) rfl
          have g46 : s19 a 7 = s2 a 7 := (by rw [e_s19, zU_at (Or.inr (by decide))])
          have f47 := zf hS_s2 ha (k := 7) rfl
          have g48 : s19 a 21 = s2 a 21 := (by rw [e_s19, zU_at (Or.inr (by decide))])
          have f49 := zf hS_s2 ha (k := 21) rfl
          have g50 : s19 a 22 = s2 a 22 := (by rw [e_s19, zU_at (Or.inr (by decide))])
          have f51 := zf hS_s2 ha (k := 22) rfl
          have g52 : s19 a 23 = s2 a 23 := (by rw [e_s19, zU_at (Or.inr (by decide))])
          have f53 := zf hS_s2 ha (k := 23) rfl
          have g54 : s19 a 24 = s2 a 24 := (by rw [e_s19, zU_at (Or.inr (by decide))])
          have f55 := zf hS_s2 ha (k := 24) rfl
          have g56 : s19 a 38 = s2 a 38 := (by rw [e_s19, zU_at (Or.inr (by decide))])
          have f57 := zf hS_s2 ha (k := 38) rfl
          have g58 : s19 a 51 = s2 a 51 := (by rw [e_s19, zU_at (Or.inr (by decide))])
          have f59 := zf hS_s2 ha (k := 51) rfl
          have g60 : s19 a 52 = s2 a 52 := (by rw [e_s19, zU_at (Or.inr (by decide))])
          have f61 := zf hS_s2 ha (k := 52) rfl
          exact j_sub [0] [(0, .ref a)] rfl (ih_c0_1 s19 (by omega) hS_s19 (zFr_u (zFr_t zFr_rf hF_s2 (by decide)) e_s19 ha (by decide)) (by omega) (by omega) (by omega) (by omega) (by omega) (by omega) (by omega) (by omega) (by omega) (by omega) (by omega) (by omega) (by omega))
  exact j_sub [0] [(0, .ref a)] rfl (c0_1 (2147483648 * 4) s0 (by omega) hS0 zFr_rf (by omega) (by omega) (by omega) (by omega) (by omega) (by omega) (by omega) (by omega) (by omega) (by omega) (by omega) (by omega) (by omega))

theorem lk_RX12_149 : LkV RX12 149 RX12 yX12_here cX12_here 1 (some .int) 0 := ⟨km_RX12_149, ki_yX12_here, ks_RX12_yX12_here, kn_RX12, kc_yX12_here, rfl, by decide +kernel, by decide +kernel, by decide +kernel⟩
set_option maxHeartbeats 1200000 in
set_option maxRecDepth 20000 in
theorem c_X12_isMore {E : zE} {l : Launch} (hst : l.stackTraces = false) (a : Nat) : Con E l yX12_isMore cX12_isMore 1 (some .boolean) { frames := 1, cells := 0, slots := 0, locals := 20 } (fun G s vs => vs = [.ref a] ∧ zGK G ∧ zSK G s ∧ (gT G a = 13) ∧ (s a 4 ≤ s a 3 + 2)) (fun G s _ => pI (fun r G2 s2 => G2 = G ∧ zSK G s2 ∧ zFr [13] G s s2 ∧ (0 ≤ r ∧ r ≤ 1) ∧ s a 4 ≤ s2 a 4 ∧ (r = 1 → s2 a 4 < s a 3) ∧ s2 a 4 ≤ s a 3 + 2 ∧ s2 a 0 = s a 0 ∧ s2 a 3 = s a 3 ∧ s2 a 5 = s a 5 ∧ s2 a 7 = s a 7 ∧ s2 a 21 = s a 21 ∧ s2 a 22 = s a 22 ∧ s2 a 23 = s a 23 ∧ s2 a 24 = s a 24 ∧ s2 a 38 = s a 38 ∧ s2 a 51 = s a 51 ∧ s2 a 52 = s a 52)) := by
  refine Con.mk hst (by decide) (fun G s vs h => by rw [h.1]; exact Nat.le_of_ble_eq_true rfl) ?_
  rintro X G s0 vs ⟨rfl, hG, hS0, ha, e0⟩ rfl hx hq
  show JJ X E 1 G s0 0 0 [(0, .ref a)] 0 []
  refine j_aload_n hx 0 dX12_isMore_0 rfl ?_
  have f1 := zf hS0 ha (k := 4) rfl
  have f2 := zf hS0 ha (k := 3) rfl
  have f3 := zf hS0 ha (k := 0) rfl
  have f4 := zf hS0 ha (k := 5) rfl
  have f5 := zf hS0 ha (k := 7) rfl
  have f6 := zf hS0 ha (k := 21) rfl
  have f7 := zf hS0 ha (k := 22) rfl
  have f8 := zf hS0 ha (k := 23) rfl
  have f9 := zf hS0 ha (k := 24) rfl
  have f10 := zf hS0 ha (k := 38) rfl
  have f11 := zf hS0 ha (k := 51) rfl
  have f12 := zf hS0 ha (k := 52) rfl
  refine j_callV hx hG (c_X12_here hst a) lk_RX12_149 ha (by decide) rfl rfl rfl rfl [] ⟨rfl, hG, hS0, ha, (by omega)⟩ rfl rfl ⟨by decide, by decide⟩ ⟨by decide, by decide⟩ (k2 := 0) (n2 := 0) rfl rfl (Nat.le_of_ble_eq_true rfl) dX12_isMore_1 (kIM (fun v13 s1 hS_s1 hF_s1 q14 => ?_))
  refine j_pop hx dX12_isMore_4 rfl ?_
  refine j_aload_n hx 0 dX12_isMore_5 rfl ?_
  have f15 := zf hS_s1 ha (k := 4) rfl
  refine g13_4 hx hG ha kf_RX12_143 rfl dX12_isMore_6 ?_
  refine j_aload_n hx 0 dX12_isMore_9 rfl ?_
  have f16 := zf hS_s1 ha (k := 3) rfl
  refine g13_3 hx hG ha kf_RX12_146 rfl dX12_isMore_10 ?_
  refine j_icmp_ge hx 20 dX12_isMore_13 rfl (by omega) (by omega) (fun h17 => ?_) (fun h17 => ?_)
  · skip
    refine j_iconst hx dX12_isMore_20 ?_
    have f18 := zf hS_s1 ha (k := 0) rfl
    have f19 := zf hS_s1 ha (k := 5) rfl
    have f20 := zf hS_s1 ha (k := 7) rfl
    have f21 := zf hS_s1 ha (k := 21) rfl
    have f22 := zf hS_s1 ha (k := 22) rfl
    have f23 := zf hS_s1 ha (k := 23) rfl
    have f24 := zf hS_s1 ha (k := 24) rfl
    have f25 := zf hS_s1 ha (k := 38) rfl
    have f26 := zf hS_s1 ha (k := 51) rfl
    have f27 := zf hS_s1 ha (k := 52) rfl
    exact j_zret hx hq rfl (by decide) (by decide) dX12_isMore_21 (by omega) ⟨0, rfl, rfl, hS_s1, (zFr_t zFr_rf hF_s1 (by decide)), ⟨(by omega), by omega, by omega, by omega, by omega, by omega, by omega, by omega, by omega, by omega, by omega, by omega, by omega, by omega, by omega⟩⟩
  · skip
    refine j_iconst hx dX12_isMore_16 ?_
    refine j_goto hx 21 dX12_isMore_17 rfl ?_
    have f28 := zf hS_s1 ha (k := 0) rfl
    have f29 := zf hS_s1 ha (k := 5) rfl
    have f30 := zf hS_s1 ha (k := 7) rfl
    have f31 := zf hS_s1 ha (k := 21) rfl
    have f32 := zf hS_s1 ha (k := 22) rfl
    have f33 := zf hS_s1 ha (k := 23) rfl
    have f34 := zf hS_s1 ha (k := 24) rfl
    have f35 := zf hS_s1 ha (k := 38) rfl
    have f36 := zf hS_s1 ha (k := 51) rfl
    have f37 := zf hS_s1 ha (k := 52) rfl
    exact j_zret hx hq rfl (by decide) (by decide) dX12_isMore_21 (by omega) ⟨1, rfl, rfl, hS_s1, (zFr_t zFr_rf hF_s1 (by decide)), ⟨(by omega), by omega, by omega, by omega, by omega, by omega, by omega, by omega, by omega, by omega, by omega, by omega, by omega, by omega, by omega⟩⟩

set_option maxHeartbeats 1200000 in
set_option maxRecDepth 20000 in
theorem c_X12_isSmall {E : zE} {l : Launch} (hst : l.stackTraces = false) (x0 : Int) : Con E l yX12_isSmall cX12_isSmall 1 (some .boolean) { frames := 0, cells := 0, slots := 0, locals := 0 } (fun G s vs => vs = [.int (zI x0)] ∧ zGK G ∧ zSK G s ∧ ((-2147483648) ≤ x0 ∧ x0 ≤ 2147483647)) (fun G s _ => pI (fun r G2 s2 => G2 = G ∧ s2 = s ∧ (0 ≤ r ∧ r ≤ 1) ∧ ((r = 1 → 97 ≤ x0 ∧ x0 ≤ 122) ∧ (r = 0 → x0 < 97 ∨ 122 < x0)))) := by
  refine Con.mk hst (by decide) (fun G s vs h => by rw [h.1]; exact Nat.le_of_ble_eq_true rfl) ?_
  rintro X G s0 vs ⟨rfl, hG, hS0, hx0⟩ rfl hx hq
  show JJ X E 1 G s0 0 0 [(0, .int (zI x0))] 0 []
  refine j_iload_n hx 0 dX12_isSmall_0 rfl ?_
  refine j_bipush hx dX12_isSmall_1 rfl ?_
  refine j_icmp_lt hx 16 dX12_isSmall_3 rfl (by omega) ⟨by decide, by decide⟩ (fun h1 => ?_) (fun h1 => ?_)
  · skip
    refine j_iconst hx dX12_isSmall_16 ?_
    exact j_zret hx hq rfl (by decide) (by decide) dX12_isSmall_17 (by omega) ⟨0, rfl, rfl, rfl, ⟨(by omega), by omega⟩⟩
  · skip
    refine j_iload_n hx 0 dX12_isSmall_6 rfl ?_
    refine j_bipush hx dX12_isSmall_7 rfl ?_
    refine j_icmp_gt hx 16 dX12_isSmall_9 rfl (by omega) ⟨by decide, by decide⟩ (fun h2 => ?_) (fun h2 => ?_)
    · skip
      refine j_iconst hx dX12_isSmall_16 ?_
      exact j_zret hx hq rfl (by decide) (by decide) dX12_isSmall_17 (by omega) ⟨0, rfl, rfl, rfl, ⟨(by omega), by omega⟩⟩
    · skip
      refine j_iconst hx dX12_isSmall_12 ?_
      refine j_goto hx 17 dX12_isSmall_13 rfl ?_
      exact j_zret hx hq rfl (by decide) (by decide) dX12_isSmall_17 (by omega) ⟨1, rfl, rfl, rfl, ⟨(by omega), by omega⟩⟩

theorem lk_RX12_153 : LkS RX12 153 yX12_isSmall cX12_isSmall 1 (some .boolean) 1 := ⟨km_RX12_153, kst_yX12_isSmall, kn_RX12, kc_yX12_isSmall, by decide +kernel, by decide +kernel, by decide +kernel⟩
set_option maxHeartbeats 1200000 in
set_option maxRecDepth 20000 in
theorem c_X12_word {E : zE} {l : Launch} (hst : l.stackTraces = false) (a : Nat) : Con E l yX12_word cX12_word 4 (some .int) { frames := 1, cells := 0, slots := 0, locals := 20 } (fun G s vs => vs = [.ref a] ∧ zGK G ∧ zSK G s ∧ (gT G a = 13) ∧ (s a 4 ≤ s a 3 + 2)) (fun G s _ => pI (fun r G2 s2 => G2 = G ∧ zSK G s2 ∧ zFr [13] G s s2 ∧ ((-2147483648) ≤ r ∧ r ≤ 2147483647) ∧ s a 4 ≤ s2 a 4 ∧ s2 a 4 ≤ s a 3 + 2 ∧ (r ≠ 0 → (s2 a 4 < s a 3 ∧ 97 ≤ s2 (gP G a 9) (s2 a 4).toNat ∧ s2 (gP G a 9) (s2 a 4).toNat ≤ 122)) ∧ s2 a 0 = s a 0 ∧ s2 a 3 = s a 3 ∧ s2 a 5 = s a 5 ∧ s2 a 7 = s a 7 ∧ s2 a 21 = s a 21 ∧ s2 a 22 = s a 22 ∧ s2 a 23 = s a 23 ∧ s2 a 24 = s a 24 ∧ s2 a 38 = s a 38 ∧ s2 a 51 = s a 51 ∧ s2 a 52 = s a 52)) := by
  refine Con.mk hst (by decide) (fun G s vs h => by rw [h.1]; exact Nat.le_of_ble_eq_true rfl) ?_
  rintro X G s0 vs ⟨rfl, hG, hS0, ha, e0⟩ rfl hx hq
  show JJ X E 4 G s0 0 0 [(0, .ref a)] 0 []
  refine j_aload_n hx 0 dX12_word_0 rfl ?_
  have f1 := zf hS0 ha (k := 4) rfl
  have f2 := zf hS0 ha (k := 3) rfl
  have f3 := zf hS0 ha (k := 0) rfl
  have f4 := zf hS0 ha (k := 5) rfl
  have f5 := zf hS0 ha (k := 7) rfl
  have f6 := zf hS0 ha (k := 21) rfl
  have f7 := zf hS0 ha (k := 22) rfl
  have f8 := zf hS0 ha (k := 23) rfl
  have f9 := zf hS0 ha (k := 24) rfl
  have f10 := zf hS0 ha (k := 38) rfl
  have f11 := zf hS0 ha (k := 51) rfl
  have f12 := zf hS0 ha (k := 52) rfl
  refine j_callV hx hG (c_X12_here hst a) lk_RX12_149 ha (by decide) rfl rfl rfl rfl [] ⟨rfl, hG, hS0, ha, (by omega)⟩ rfl rfl ⟨by decide, by decide⟩ ⟨by decide, by decide⟩ (k2 := 0) (n2 := 0) rfl rfl (Nat.le_of_ble_eq_true rfl) dX12_word_1 (kIM (fun v13 s1 hS_s1 hF_s1 q14 => ?_))
  refine j_pop hx dX12_word_4 rfl ?_
  refine j_iconst hx dX12_word_5 ?_
  refine j_istore_n hx [(1, .int (zI 0)), (0, .ref a)] dX12_word_6 (by decide) rfl ?_
  refine j_iconst hx dX12_word_7 ?_
  refine j_istore_n hx [(2, .int (zI 0)), (1, .int (zI 0)), (0, .ref a)] dX12_word_8 (by decide) rfl ?_
  refine j_aload_n hx 2 dX12_word_9 rfl ?_
  have f15 := zf hS_s1 ha (k := 4) rfl
  refine g13_4 hx hG ha kf_RX12_143 rfl dX12_word_10 ?_
  refine j_istore_n hx [(3, .int (zI ((s1 a 4)))), (2, .int (zI 0)), (1, .int (zI 0)), (0, .ref a)] dX12_word_13 (by decide) rfl ?_
  have c14_2 : ∀ (m_c14_2 : Nat) (v16 : Int) (v17 : Int) (v18 : Int), 2147483648 - v18 < m_c14_2 → ((-2147483648) ≤ v16 ∧ v16 ≤ 2147483647) → (0 ≤ v17 ∧ v17 ≤ 700) → (0 ≤ v18 ∧ v18 ≤ 700) → (v17 = 0 → v16 = 0) → (v17 = 0 ∨ (s1 a 4 < s1 a 3 ∧ 97 ≤ s1 (gP G a 9) (s1 a 4).toNat ∧ s1 (gP G a 9) (s1 a 4).toNat ≤ 122)) → (v18 = s1 a 4 + v17) → JJ X E 4 G s1 0 0 [(0, .ref a), (1, .int (zI v16)), (2, .int (zI v17)), (3, .int (zI v18))] 14 [] := by
    intro m_c14_2
    induction m_c14_2 with
    | zero => intro v16 v17 v18 hm_c14_2 fA3 fA4 fA5 fA6 fA7 fA8; exfalso; omega
    | succ m_c14_2 ih_c14_2 => 
      intro v16 v17 v18 hm_c14_2 fA3 fA4 fA5 fA6 fA7 fA8
      refine j_iload_n hx 3 dX12_word_14 rfl ?_
      refine j_aload_n hx 0 dX12_word_15 rfl ?_
      have f19 := zf hS_s1 ha (k := 3) rfl
      refine g13_3 hx hG ha kf_RX12_146 rfl dX12_word_16 ?_
      have c67_9 : JJ X E 4 G s1 0 0 [(1, .int (zI v16)), (2, .int (zI v17))] 67 [] := by
        refine j_iload_n hx 1 dX12_word_67 rfl ?_
        refine j_bipush hx dX12_word_68 rfl ?_
        refine j_icmp_le hx 77 dX12_word_70 rfl (by omega) ⟨by decide, by decide⟩ (fun h20 => ?_) (fun h20 => ?_)
        · skip
          refine j_iload_n hx 0 dX12_word_77 rfl ?_
          have g21 : s1 (gP G a 9) (s1 a 4).toNat = s0 (gP G a 9) (s1 a 4).toNat := (by rw [(zFr_g hF_s1 (zr (k := 9) (t2 := 72) hG ha rfl) (by decide))])
          have f22 := zf hS_s1 ha (k := 0) rfl
          have f23 := zf hS_s1 ha (k := 5) rfl
          have f24 := zf hS_s1 ha (k := 7) rfl
          have f25 := zf hS_s1 ha (k := 21) rfl
          have f26 := zf hS_s1 ha (k := 22) rfl
          have f27 := zf hS_s1 ha (k := 23) rfl
          have f28 := zf hS_s1 ha (k := 24) rfl
          have f29 := zf hS_s1 ha (k := 38) rfl
          have f30 := zf hS_s1 ha (k := 51) rfl
          have f31 := zf hS_s1 ha (k := 52) rfl
          exact j_iret hx hq rfl (by decide) (by decide) dX12_word_78 ⟨v16, rfl, rfl, hS_s1, (zFr_t zFr_rf hF_s1 (by decide)), ⟨(by omega), by omega, by omega, by omega, by omega, by omega, by omega, by omega, by omega, by omega, by omega, by omega, by omega, by omega, by omega⟩⟩
        · skip
          refine j_iconst hx dX12_word_73 ?_
          refine j_goto hx 78 dX12_word_74 rfl ?_
          have g32 : s1 (gP G a 9) (s1 a 4).toNat = s0 (gP G a 9) (s1 a 4).toNat := (by rw [(zFr_g hF_s1 (zr (k := 9) (t2 := 72) hG ha rfl) (by decide))])
          have f33 := zf hS_s1 ha (k := 0) rfl
          have f34 := zf hS_s1 ha (k := 5) rfl
          have f35 := zf hS_s1 ha (k := 7) rfl
          have f36 := zf hS_s1 ha (k := 21) rfl
          have f37 := zf hS_s1 ha (k := 22) rfl
          have f38 := zf hS_s1 ha (k := 23) rfl
          have f39 := zf hS_s1 ha (k := 24) rfl
          have f40 := zf hS_s1 ha (k := 38) rfl
          have f41 := zf hS_s1 ha (k := 51) rfl
          have f42 := zf hS_s1 ha (k := 52) rfl
          exact j_iret hx hq rfl (by decide) (by decide) dX12_word_78 ⟨0, rfl, rfl, hS_s1, (zFr_t zFr_rf hF_s1 (by decide)), ⟨(by omega), by omega, by omega, by omega, by omega, by omega, by omega, by omega, by omega, by omega, by omega, by omega, by omega, by omega, by omega⟩⟩
      refine j_icmp_ge hx 67 dX12_word_19 rfl (by omega) (by omega) (fun h43 => ?_) (fun h43 => ?_)
      · skip
        exact j_sub [1, 2] [(1, .int (zI v16)), (2, .int (zI v17))] rfl (c67_9  )
      · skip
        refine j_aload_n hx 0 dX12_word_22 rfl ?_
        refine g13_9 hx hG ha kf_RX12_20 dX12_word_23 ?_
        refine j_iload_n hx 3 dX12_word_26 rfl ?_
        have f44 := zaI (j := (v18).toNat) hS0 (zr (k := 9) (t2 := 72) hG ha rfl) rfl (zlen hG (zr (k := 9) (t2 := 72) hG ha rfl) (n := 600) rfl rfl) (show 0 ≤ v18 by omega) (by omega) rfl
        refine j_iald hx hG (zr (k := 9) (t2 := 72) hG ha rfl) (by decide) rfl (zlen hG (zr (k := 9) (t2 := 72) hG ha rfl) (n := 600) rfl rfl) (by omega) (by omega) (j := (v18).toNat) rfl (v := (s0 (gP G a 9) (v18).toNat)) (by rw [(zFr_g hF_s1 (zr (k := 9) (t2 := 72) hG ha rfl) (by decide))]) dX12_word_27 ?_
        refine j_callS hx (c_X12_isSmall hst ((s0 (gP G a 9) (v18).toNat))) lk_RX12_153 [.int (zI ((s0 (gP G a 9) (v18).toNat)))] ⟨rfl, hG, hS_s1, (by omega)⟩ rfl rfl ⟨by decide, by decide⟩ ⟨by decide, by decide⟩ (k2 := 0) (n2 := 0) rfl rfl (Nat.le_of_ble_eq_true rfl) dX12_word_28 (kIP (fun v45 q46 => ?_))
        refine j_if_eq hx 67 dX12_word_31 rfl (by omega) (fun h47 => ?_) (fun h47 => ?_)
        · skip
          exact j_sub [1, 2] [(1, .int (zI v16)), (2, .int (zI v17))] rfl (c67_9  )
        · skip
          have g48 : s1 (gP G a 9) (v18).toNat = s0 (gP G a 9) (v18).toNat := (by rw [(zFr_g hF_s1 (zr (k := 9) (t2 := 72) hG ha rfl) (by decide))])
          have g49 : s1 (gP G a 9) (s1 a 4).toNat = s0 (gP G a 9) (s1 a 4).toNat := (by rw [(zFr_g hF_s1 (zr (k := 9) (t2 := 72) hG ha rfl) (by decide))])
          have z50 : v18 = s1 a 4 → s1 (gP G a 9) (v18).toNat = s1 (gP G a 9) (s1 a 4).toNat := fun h => by rw [h]
          refine j_iload_n hx 2 dX12_word_34 rfl ?_
          refine j_bipush hx dX12_word_35 rfl ?_
          have c57_10 : ∀ (v51 : Int), ((-2147483648) ≤ v51 ∧ v51 ≤ 2147483647) → JJ X E 4 G s1 0 0 [(0, .ref a), (2, .int (zI v17)), (3, .int (zI v18))] 57 [.int (zI v51)] := by
            intro v51 fA11
            refine j_istore_n hx [(1, .int (zI v51)), (0, .ref a), (2, .int (zI v17)), (3, .int (zI v18))] dX12_word_57 (by decide) rfl ?_
            refine j_iinc hx 2 [(2, .int (zI (v17 + 1))), (1, .int (zI v51)), (0, .ref a), (3, .int (zI v18))] dX12_word_58 rfl (by omega) (by decide) rfl ?_
            refine j_iinc hx 3 [(3, .int (zI (v18 + 1))), (2, .int (zI (v17 + 1))), (1, .int (zI v51)), (0, .ref a)] dX12_word_61 rfl (by omega) (by decide) rfl ?_
            refine j_goto hx 14 dX12_word_64 rfl ?_
            exact j_sub [3, 2, 1, 0] [(0, .ref a), (1, .int (zI v51)), (2, .int (zI (v17 + 1))), (3, .int (zI (v18 + 1)))] rfl (ih_c14_2 v51 (v17 + 1) (v18 + 1) (by omega) (by omega) (by omega) (by omega) (by omega) (by omega) (by omega))
          refine j_icmp_ge hx 56 dX12_word_37 rfl (by omega) ⟨by decide, by decide⟩ (fun h52 => ?_) (fun h52 => ?_)
          · skip
            refine j_iconst hx dX12_word_56 ?_
            exact j_sub [0, 2, 3] [(0, .ref a), (2, .int (zI v17)), (3, .int (zI v18))] rfl (c57_10 0 (by omega))
          · skip
            refine j_iload_n hx 1 dX12_word_40 rfl ?_
            refine j_iconst hx dX12_word_41 ?_
            refine j_ishl hx dX12_word_42 (fun v53 f54 f55 => ?_)
            refine j_aload_n hx 0 dX12_word_43 rfl ?_
            refine g13_9 hx hG ha kf_RX12_20 dX12_word_44 ?_
            refine j_iload_n hx 3 dX12_word_47 rfl ?_
            refine j_iald hx hG (zr (k := 9) (t2 := 72) hG ha rfl) (by decide) rfl (zlen hG (zr (k := 9) (t2 := 72) hG ha rfl) (n := 600) rfl rfl) (by omega) (by omega) (j := (v18).toNat) rfl (v := (s0 (gP G a 9) (v18).toNat)) (by rw [(zFr_g hF_s1 (zr (k := 9) (t2 := 72) hG ha rfl) (by decide))]) dX12_word_48 ?_
            refine j_bipush hx dX12_word_49 rfl ?_
            refine j_isub hx (r := (s0 (gP G a 9) (v18).toNat) - 96) dX12_word_51 (by omega) ?_
            refine j_ior hx dX12_word_52 (fun v56 f57 f58 => ?_)
            refine j_goto hx 57 dX12_word_53 rfl ?_
            exact j_sub [0, 2, 3] [(0, .ref a), (2, .int (zI v17)), (3, .int (zI v18))] rfl (c57_10 v56 (by omega))
  exact j_sub [3, 2, 1, 0] [(0, .ref a), (1, .int (zI 0)), (2, .int (zI 0)), (3, .int (zI ((s1 a 4))))] rfl (c14_2 (2147483648 * 4) 0 0 ((s1 a 4)) (by omega) (by omega) (by omega) (by omega) (by omega) (by omega) (by omega))

theorem lk_RX12_215 : LkS RX12 215 yX12_of cX12_of 3 (some .int) 1 := ⟨km_RX12_215, kst_yX12_of, kn_RX12, kc_yX12_of, by decide +kernel, by decide +kernel, by decide +kernel⟩
set_option maxHeartbeats 1200000 in
set_option maxRecDepth 20000 in
theorem c_X12_isClause {E : zE} {l : Launch} (hst : l.stackTraces = false) (x0 : Int) : Con E l yX12_isClause cX12_isClause 1 (some .boolean) { frames := 6, cells := 0, slots := 0, locals := 242 } (fun G s vs => vs = [.int (zI x0)] ∧ zGK G ∧ zSK G s ∧ ((-2147483648) ≤ x0 ∧ x0 ≤ 2147483647)) (fun G s _ => pI (fun r G2 s2 => G2 = G ∧ s2 = s ∧ (0 ≤ r ∧ r ≤ 1))) := by
  refine Con.mk hst (by decide) (fun G s vs h => by rw [h.1]; exact Nat.le_of_ble_eq_true rfl) ?_
  rintro X G s0 vs ⟨rfl, hG, hS0, hx0⟩ rfl hx hq
  show JJ X E 1 G s0 0 0 [(0, .int (zI x0))] 0 []
  refine j_iload_n hx 0 dX12_isClause_0 rfl ?_
  refine j_ldcT hx (i := 0) 20 (by decide) rfl rfl rfl dX12_isClause_1 ?_
  refine j_callS hx (c_X12_of hst 0) lk_RX12_215 [.ref (zTa E 0)] ⟨rfl, hG, hS0, (by decide)⟩ rfl rfl ⟨by decide, by decide⟩ ⟨by decide, by decide⟩ (k2 := 0) (n2 := 0) rfl rfl (Nat.le_of_ble_eq_true rfl) dX12_isClause_3 (kIP (fun v1 q2 => ?_))
  refine j_icmp_eq hx 72 dX12_isClause_6 rfl (by omega) (by omega) (fun h3 => ?_) (fun h3 => ?_)
  · skip
    refine j_iconst hx dX12_isClause_72 ?_
    refine j_goto hx 77 dX12_isClause_73 rfl ?_
    exact j_zret hx hq rfl (by decide) (by decide) dX12_isClause_77 (by omega) ⟨1, rfl, rfl, rfl, (by omega)⟩
  · skip
    refine j_iload_n hx 0 dX12_isClause_9 rfl ?_
    refine j_ldcT hx (i := 2) 21 (by decide) rfl rfl rfl dX12_isClause_10 ?_
    refine j_callS hx (c_X12_of hst 2) lk_RX12_215 [.ref (zTa E 2)] ⟨rfl, hG, hS0, (by decide)⟩ rfl rfl ⟨by decide, by decide⟩ ⟨by decide, by decide⟩ (k2 := 0) (n2 := 0) rfl rfl (Nat.le_of_ble_eq_true rfl) dX12_isClause_12 (kIP (fun v4 q5 => ?_))
    refine j_icmp_eq hx 72 dX12_isClause_15 rfl (by omega) (by omega) (fun h6 => ?_) (fun h6 => ?_)
    · skip
      refine j_iconst hx dX12_isClause_72 ?_
      refine j_goto hx 77 dX12_isClause_73 rfl ?_
      exact j_zret hx hq rfl (by decide) (by decide) dX12_isClause_77 (by omega) ⟨1, rfl, rfl, rfl, (by omega)⟩
    · skip
      refine j_iload_n hx 0 dX12_isClause_18 rfl ?_
      refine j_ldcT hx (i := 3) 22 (by decide) rfl rfl rfl dX12_isClause_19 ?_
      refine j_callS hx (c_X12_of hst 3) lk_RX12_215 [.ref (zTa E 3)] ⟨rfl, hG, hS0, (by decide)⟩ rfl rfl ⟨by decide, by decide⟩ ⟨by decide, by decide⟩ (k2 := 0) (n2 := 0) rfl rfl (Nat.le_of_ble_eq_true rfl) dX12_isClause_21 (kIP (fun v7 q8 => ?_))
      refine j_icmp_eq hx 72 dX12_isClause_24 rfl (by omega) (by omega) (fun h9 => ?_) (fun h9 => ?_)
      · skip
        refine j_iconst hx dX12_isClause_72 ?_
        refine j_goto hx 77 dX12_isClause_73 rfl ?_
        exact j_zret hx hq rfl (by decide) (by decide) dX12_isClause_77 (by omega) ⟨1, rfl, rfl, rfl, (by omega)⟩
      · skip
        refine j_iload_n hx 0 dX12_isClause_27 rfl ?_
        refine j_ldcT hx (i := 5) 23 (by decide) rfl rfl rfl dX12_isClause_28 ?_
        refine j_callS hx (c_X12_of hst 5) lk_RX12_215 [.ref (zTa E 5)] ⟨rfl, hG, hS0, (by decide)⟩ rfl rfl ⟨by decide, by decide⟩ ⟨by decide, by decide⟩ (k2 := 0) (n2 := 0) rfl rfl (Nat.le_of_ble_eq_true rfl) dX12_isClause_30 (kIP (fun v10 q11 => ?_))
        refine j_icmp_eq hx 72 dX12_isClause_33 rfl (by omega) (by omega) (fun h12 => ?_) (fun h12 => ?_)
        · skip
          refine j_iconst hx dX12_isClause_72 ?_
          refine j_goto hx 77 dX12_isClause_73 rfl ?_
          exact j_zret hx hq rfl (by decide) (by decide) dX12_isClause_77 (by omega) ⟨1, rfl, rfl, rfl, (by omega)⟩
        · skip
          refine j_iload_n hx 0 dX12_isClause_36 rfl ?_
          refine j_ldcT hx (i := 6) 24 (by decide) rfl rfl rfl dX12_isClause_37 ?_
          refine j_callS hx (c_X12_of hst 6) lk_RX12_215 [.ref (zTa E 6)] ⟨rfl, hG, hS0, (by decide)⟩ rfl rfl ⟨by decide, by decide⟩ ⟨by decide, by decide⟩ (k2 := 0) (n2 := 0) rfl rfl (Nat.le_of_ble_eq_true rfl) dX12_isClause_39 (kIP (fun v13 q14 => ?_))
          refine j_icmp_eq hx 72 dX12_isClause_42 rfl (by omega) (by omega) (fun h15 => ?_) (fun h15 => ?_)
          · skip
            refine j_iconst hx dX12_isClause_72 ?_
            refine j_goto hx 77 dX12_isClause_73 rfl ?_
            exact j_zret hx hq rfl (by decide) (by decide) dX12_isClause_77 (by omega) ⟨1, rfl, rfl, rfl, (by omega)⟩
          · skip
            refine j_iload_n hx 0 dX12_isClause_45 rfl ?_
            refine j_ldcT hx (i := 7) 25 (by decide) rfl rfl rfl dX12_isClause_46 ?_
            refine j_callS hx (c_X12_of hst 7) lk_RX12_215 [.ref (zTa E 7)] ⟨rfl, hG, hS0, (by decide)⟩ rfl rfl ⟨by decide, by decide⟩ ⟨by decide, by decide⟩ (k2 := 0) (n2 := 0) rfl rfl (Nat.le_of_ble_eq_true rfl) dX12_isClause_48 (kIP (fun v16 q17 => ?_))
            refine j_icmp_eq hx 72 dX12_isClause_51 rfl (by omega) (by omega) (fun h18 => ?_) (fun h18 => ?_)
            · skip
              refine j_iconst hx dX12_isClause_72 ?_
              refine j_goto hx 77 dX12_isClause_73 rfl ?_
              exact j_zret hx hq rfl (by decide) (by decide) dX12_isClause_77 (by omega) ⟨1, rfl, rfl, rfl, (by omega)⟩
            · skip
              refine j_iload_n hx 0 dX12_isClause_54 rfl ?_
              refine j_ldcT hx (i := 4) 26 (by decide) rfl rfl rfl dX12_isClause_55 ?_
              refine j_callS hx (c_X12_of hst 4) lk_RX12_215 [.ref (zTa E 4)] ⟨rfl, hG, hS0, (by decide)⟩ rfl rfl ⟨by decide, by decide⟩ ⟨by decide, by decide⟩ (k2 := 0) (n2 := 0) rfl rfl (Nat.le_of_ble_eq_true rfl) dX12_isClause_57 (kIP (fun v19 q20 => ?_))
              refine j_icmp_eq hx 72 dX12_isClause_60 rfl (by omega) (by omega) (fun h21 => ?_) (fun h21 => ?_)
              · skip
                refine j_iconst hx dX12_isClause_72 ?_
                refine j_goto hx 77 dX12_isClause_73 rfl ?_
                exact j_zret hx hq rfl (by decide) (by decide) dX12_isClause_77 (by omega) ⟨1, rfl, rfl, rfl, (by omega)⟩
              · skip
                refine j_iload_n hx 0 dX12_isClause_63 rfl ?_
                refine j_ldcT hx (i := 1) 27 (by decide) rfl rfl rfl dX12_isClause_64 ?_
                refine j_callS hx (c_X12_of hst 1) lk_RX12_215 [.ref (zTa E 1)] ⟨rfl, hG, hS0, (by decide)⟩ rfl rfl ⟨by decide, by decide⟩ ⟨by decide, by decide⟩ (k2 := 0) (n2 := 0) rfl rfl (Nat.le_of_ble_eq_true rfl) dX12_isClause_66 (kIP (fun v22 q23 => ?_))
                refine j_icmp_ne hx 76 dX12_isClause_69 rfl (by omega) (by omega) (fun h24 => ?_) (fun h24 => ?_)
                · skip
                  refine j_iconst hx dX12_isClause_76 ?_
                  exact j_zret hx hq rfl (by decide) (by decide) dX12_isClause_77 (by omega) ⟨0, rfl, rfl, rfl, (by omega)⟩
                · skip
                  refine j_iconst hx dX12_isClause_72 ?_
                  refine j_goto hx 77 dX12_isClause_73 rfl ?_
                  exact j_zret hx hq rfl (by decide) (by decide) dX12_isClause_77 (by omega) ⟨1, rfl, rfl, rfl, (by omega)⟩

set_option maxHeartbeats 1200000 in
set_option maxRecDepth 20000 in
theorem c_X12_wrong {E : zE} {l : Launch} (hst : l.stackTraces = false) (a : Nat) (x1 : Int) (x2 : Int) : Con E l yX12_wrong cX12_wrong 3 none { frames := 0, cells := 0, slots := 0, locals := 0 } (fun G s vs => vs = [.ref a, .int (zI x1), .int (zI x2)] ∧ zGK G ∧ zSK G s ∧ (gT G a = 13) ∧ (1 ≤ x1 ∧ x1 ≤ 4) ∧ (0 ≤ x2 ∧ x2 ≤ 700)) (fun G s _ => pV (fun G2 s2 => G2 = G ∧ zSK G s2 ∧ zFr [13] G s s2 ∧ 0 ≤ s2 a 5 ∧ s a 5 ≤ s2 a 5 ∧ s2 a 0 = s a 0 ∧ s2 a 3 = s a 3 ∧ s2 a 4 = s a 4 ∧ s2 a 7 = s a 7 ∧ s2 a 21 = s a 21 ∧ s2 a 22 = s a 22 ∧ s2 a 23 = s a 23 ∧ s2 a 24 = s a 24 ∧ s2 a 38 = s a 38 ∧ s2 a 51 = s a 51 ∧ s2 a 52 = s a 52)) := by
  refine Con.mk hst (by decide) (fun G s vs h => by rw [h.1]; exact Nat.le_of_ble_eq_true rfl) ?_
  rintro X G s0 vs ⟨rfl, hG, hS0, ha, hx1, hx2⟩ rfl hx hq
  show JJ X E 3 G s0 0 0 [(0, .ref a), (1, .int (zI x1)), (2, .int (zI x2))] 0 []
  refine j_aload_n hx 0 dX12_wrong_0 rfl ?_
  have f1 := zf hS0 ha (k := 5) rfl
  refine g13_5 hx hG ha kf_RX12_137 rfl dX12_wrong_1 ?_
  refine j_iconst hx dX12_wrong_4 ?_
  refine j_icmp_eq hx 9 dX12_wrong_5 rfl (by omega) ⟨by decide, by decide⟩ (fun h2 => ?_) (fun h2 => ?_)
  · skip
    refine j_aload_n hx 0 dX12_wrong_9 rfl ?_
    refine j_iload_n hx 2 dX12_wrong_10 rfl ?_
    refine p13_5 hx hG ha kf_RX12_137 dX12_wrong_11 ?_
    obtain ⟨s1, e_s1⟩ : ∃ z, z = zU s0 a 5 x2 := ⟨_, rfl⟩
    rw [← e_s1]
    have hS_s1 : zSK G s1 := by rw [e_s1]; exact zSK_F hS0 ha rfl rfl rfl (by omega)
    refine j_aload_n hx 0 dX12_wrong_14 rfl ?_
    refine j_iload_n hx 1 dX12_wrong_15 rfl ?_
    refine p13_6 hx hG ha kf_RX12_140 dX12_wrong_16 ?_
    obtain ⟨s2, e_s2⟩ : ∃ z, z = zU s1 a 6 x1 := ⟨_, rfl⟩
    rw [← e_s2]
    have hS_s2 : zSK G s2 := by rw [e_s2]; exact zSK_F hS_s1 ha rfl rfl rfl (by omega)
    have g3 : s2 a 5 = x2 := (by rw [e_s2, zU_at (Or.inr (by decide)), e_s1, zU_eq])
    have g4 : s2 a 0 = s0 a 0 := (by rw [e_s2, zU_at (Or.inr (by decide)), e_s1, zU_at (Or.inr (by decide))])
    have f5 := zf hS0 ha (k := 0) rfl
    have g6 : s2 a 3 = s0 a 3 := (by rw [e_s2, zU_at (Or.inr (by decide)), e_s1, zU_at (Or.inr (by decide))])
    have f7 := zf hS0 ha (k := 3) rfl
    have g8 : s2 a 4 = s0 a 4 := (by rw [e_s2, zU_at (Or.inr (by decide)), e_s1, zU_at (Or.inr (by decide))])
    have f9 := zf hS0 ha (k := 4) rfl
    have g10 : s2 a 7 = s0 a 7 := (by rw [e_s2, zU_at (Or.inr (by decide)), e_s1, zU_at (Or.inr (by decide))])
    have f11 := zf hS0 ha (k := 7) rfl
    have g12 : s2 a 21 = s0 a 21 := (by rw [e_s2, zU_at (Or.inr (by decide)), e_s1, zU_at (Or.inr (by decide))])
    have f13 := zf hS0 ha (k := 21) rfl
    have g14 : s2 a 22 = s0 a 22 := (by rw [e_s2, zU_at (Or.inr (by decide)), e_s1, zU_at (Or.inr (by decide))])
    have f15 := zf hS0 ha (k := 22) rfl
    have g16 : s2 a 23 = s0 a 23 := (by rw [e_s2, zU_at (Or.inr (by decide)), e_s1, zU_at (Or.inr (by decide))])
    have f17 := zf hS0 ha (k := 23) rfl
    have g18 : s2 a 24 = s0 a 24 := (by rw [e_s2, zU_at (Or.inr (by decide)), e_s1, zU_at (Or.inr (by decide))])
    have f19 := zf hS0 ha (k := 24) rfl
    have g20 : s2 a 38 = s0 a 38 := (by rw [e_s2, zU_at (Or.inr (by decide)), e_s1, zU_at (Or.inr (by decide))])
    have f21 := zf hS0 ha (k := 38) rfl
    have g22 : s2 a 51 = s0 a 51 := (by rw [e_s2, zU_at (Or.inr (by decide)), e_s1, zU_at (Or.inr (by decide))])
    have f23 := zf hS0 ha (k := 51) rfl
    have g24 : s2 a 52 = s0 a 52 := (by rw [e_s2, zU_at (Or.inr (by decide)), e_s1, zU_at (Or.inr (by decide))])
    have f25 := zf hS0 ha (k := 52) rfl
    exact j_vret hx hq rfl (by decide) (by decide) dX12_wrong_19 ⟨rfl, rfl, hS_s2, (zFr_u (zFr_u zFr_rf e_s1 ha (by decide)) e_s2 ha (by decide)), ⟨by omega, by omega, by omega, by omega, by omega, by omega, by omega, by omega, by omega, by omega, by omega, by omega, by omega⟩⟩
  · skip
    have f26 := zf hS0 ha (k := 0) rfl
    have f27 := zf hS0 ha (k := 3) rfl
    have f28 := zf hS0 ha (k := 4) rfl
    have f29 := zf hS0 ha (k := 7) rfl
    have f30 := zf hS0 ha (k := 21) rfl
    have f31 := zf hS0 ha (k := 22) rfl
    have f32 := zf hS0 ha (k := 23) rfl
    have f33 := zf hS0 ha (k := 24) rfl
    have f34 := zf hS0 ha (k := 38) rfl
    have f35 := zf hS0 ha (k := 51) rfl
    have f36 := zf hS0 ha (k := 52) rfl
    exact j_vret hx hq rfl (by decide) (by decide) dX12_wrong_8 ⟨rfl, rfl, hS0, zFr_rf, ⟨by omega, by omega, by omega, by omega, by omega, by omega, by omega, by omega, by omega, by omega, by omega, by omega, by omega⟩⟩

set_option maxHeartbeats 1200000 in
set_option maxRecDepth 20000 in
theorem c_X12_pass {E : zE} {l : Launch} (hst : l.stackTraces = false) (a : Nat) : Con E l yX12_pass cX12_pass 1 none { frames := 1, cells := 0, slots := 0, locals := 20 } (fun G s vs => vs = [.ref a] ∧ zGK G ∧ zSK G s ∧ (gT G a = 13) ∧ (s a 4 ≤ s a 3 + 2)) (fun G s _ => pV (fun G2 s2 => G2 = G ∧ zSK G s2 ∧ zFr [13] G s s2 ∧ s a 4 ≤ s2 a 4 ∧ s2 a 4 ≤ s a 3 + 2 ∧ ((s a 4 < s a 3 ∧ 97 ≤ s (gP G a 9) (s a 4).toNat ∧ s (gP G a 9) (s a 4).toNat ≤ 122) → s a 4 + 1 ≤ s2 a 4) ∧ s2 a 0 = s a 0 ∧ s2 a 3 = s a 3 ∧ s2 a 5 = s a 5 ∧ s2 a 7 = s a 7 ∧ s2 a 21 = s a 21 ∧ s2 a 22 = s a 22 ∧ s2 a 23 = s a 23 ∧ s2 a 24 = s a 24 ∧ s2 a 38 = s a 38 ∧ s2 a 51 = s a 51 ∧ s2 a 52 = s a 52)) := by
  refine Con.mk hst (by decide) (fun G s vs h => by rw [h.1]; exact Nat.le_of_ble_eq_true rfl) ?_
  rintro X G s0 vs ⟨rfl, hG, hS0, ha, e0⟩ rfl hx hq
  show JJ X E 1 G s0 0 0 [(0, .ref a)] 0 []
  have f1 := zf hS0 ha (k := 0) rfl
  have f2 := zf hS0 ha (k := 3) rfl
  have f3 := zf hS0 ha (k := 5) rfl
  have f4 := zf hS0 ha (k := 7) rfl
  have f5 := zf hS0 ha (k := 21) rfl
  have f6 := zf hS0 ha (k := 22) rfl
  have f7 := zf hS0 ha (k := 23) rfl
  have f8 := zf hS0 ha (k := 24) rfl
  have f9 := zf hS0 ha (k := 38) rfl
  have f10 := zf hS0 ha (k := 51) rfl
  have f11 := zf hS0 ha (k := 52) rfl
  have f12 := zf hS0 ha (k := 4) rfl
  have c0_1 : ∀ (m_c0_1 : Nat) (s2 : zS), 1000 - s2 a 4 < m_c0_1 → (zSK G s2) → (zFr [13] G s0 s2) → (s2 a 0 = s0 a 0) → (s2 a 3 = s0 a 3) → (s2 a 5 = s0 a 5) → (s2 a 7 = s0 a 7) → (s2 a 21 = s0 a 21) → (s2 a 22 = s0 a 22) → (s2 a 23 = s0 a 23) → (s2 a 24 = s0 a 24) → (s2 a 38 = s0 a 38) → (s2 a 51 = s0 a 51) → (s2 a 52 = s0 a 52) → (s0 a 4 ≤ s2 a 4) → (s2 a 4 ≤ s2 a 3 + 2) → (s2 a 4 = s0 a 4 ∨ s0 a 4 + 1 ≤ s2 a 4) → JJ X E 1 G s2 0 0 [(0, .ref a)] 0 [] := by
    intro m_c0_1
    induction m_c0_1 with
    | zero => intro s2 hm_c0_1 hS_s2 hF_s2 fA5 fA6 fA7 fA8 fA9 fA10 fA11 fA12 fA13 fA14 fA15 fA16 fA17 fA18; exfalso; omega
    | succ m_c0_1 ih_c0_1 => 
      intro s2 hm_c0_1 hS_s2 hF_s2 fA5 fA6 fA7 fA8 fA9 fA10 fA11 fA12 fA13 fA14 fA15 fA16 fA17 fA18
      have z13 : s2 a 4 = s0 a 4 → s0 (gP G a 9) (s2 a 4).toNat = s0 (gP G a 9) (s0 a 4).toNat := fun h => by rw [h]
      refine j_aload_n hx 0 dX12_pass_0 rfl ?_
      have f14 := zf hS_s2 ha (k := 4) rfl
      refine g13_4 hx hG ha kf_RX12_143 rfl dX12_pass_1 ?_
      refine j_aload_n hx 0 dX12_pass_4 rfl ?_
      have f15 := zf hS_s2 ha (k := 3) rfl
      refine g13_3 hx hG ha kf_RX12_146 rfl dX12_pass_5 ?_
      refine j_icmp_ge hx 39 dX12_pass_8 rfl (by omega) (by omega) (fun h16 => ?_) (fun h16 => ?_)
      · skip
        have f17 := zf hS_s2 ha (k := 0) rfl
        have f18 := zf hS_s2 ha (k := 5) rfl
        have f19 := zf hS_s2 ha (k := 7) rfl
        have f20 := zf hS_s2 ha (k := 21) rfl
        have f21 := zf hS_s2 ha (k := 22) rfl
        have f22 := zf hS_s2 ha (k := 23) rfl
        have f23 := zf hS_s2 ha (k := 24) rfl
        have f24 := zf hS_s2 ha (k := 38) rfl
        have f25 := zf hS_s2 ha (k := 51) rfl
        have f26 := zf hS_s2 ha (k := 52) rfl
        exact j_vret hx hq rfl (by decide) (by decide) dX12_pass_39 ⟨rfl, rfl, hS_s2, (zFr_t zFr_rf hF_s2 (by decide)), ⟨by omega, by omega, by omega, by omega, by omega, by omega, by omega, by omega, by omega, by omega, by omega, by omega, by omega, by omega⟩⟩
      · skip
        refine j_aload_n hx 0 dX12_pass_11 rfl ?_
        refine g13_9 hx hG ha kf_RX12_20 dX12_pass_12 ?_
        refine j_aload_n hx 0 dX12_pass_15 rfl ?_
        refine g13_4 hx hG ha kf_RX12_143 rfl dX12_pass_16 ?_
        have f27 := zaI (j := ((s2 a 4)).toNat) hS0 (zr (k := 9) (t2 := 72) hG ha rfl) rfl (zlen hG (zr (k := 9) (t2 := 72) hG ha rfl) (n := 600) rfl rfl) (show 0 ≤ (s2 a 4) by omega) (by omega) rfl
        refine j_iald hx hG (zr (k := 9) (t2 := 72) hG ha rfl) (by decide) rfl (zlen hG (zr (k := 9) (t2 := 72) hG ha rfl) (n := 600) rfl rfl) (by omega) (by omega) (j := ((s2 a 4)).toNat) rfl (v := (s0 (gP G a 9) ((s2 a 4)).toNat)) (by rw [(zFr_g hF_s2 (zr (k := 9) (t2 := 72) hG ha rfl) (by decide))]) dX12_pass_19 ?_
        refine j_callS hx (c_X12_isSmall hst ((s0 (gP G a 9) ((s2 a 4)).toNat))) lk_RX12_153 [.int (zI ((s0 (gP G a 9) ((s2 a 4)).toNat)))] ⟨rfl, hG, hS_s2, (by omega)⟩ rfl rfl ⟨by decide, by decide⟩ ⟨by decide, by decide⟩ (k2 := 0) (n2 := 0) rfl rfl (Nat.le_of_ble_eq_true rfl) dX12_pass_20 (kIP (fun v28 q29 => ?_))
        refine j_if_eq hx 39 dX12_pass_23 rfl (by omega) (fun h30 => ?_) (fun h30 => ?_)
        · skip
          have f31 := zf hS_s2 ha (k := 0) rfl
          have f32 := zf hS_s2 ha (k := 5) rfl
          have f33 := zf hS_s2 ha (k := 7) rfl
          have f34 := zf hS_s2 ha (k := 21) rfl
          have f35 := zf hS_s2 ha (k := 22) rfl
          have f36 := zf hS_s2 ha (k := 23) rfl
          have f37 := zf hS_s2 ha (k := 24) rfl
          have f38 := zf hS_s2 ha (k := 38) rfl
          have f39 := zf hS_s2 ha (k := 51) rfl
          have f40 := zf hS_s2 ha (k := 52) rfl
          exact j_vret hx hq rfl (by decide) (by decide) dX12_pass_39 ⟨rfl, rfl, hS_s2, (zFr_t zFr_rf hF_s2 (by decide)), ⟨by omega, by omega, by omega, by omega, by omega, by omega, by omega, by omega, by omega, by omega, by omega, by omega, by omega, by omega⟩⟩
        · skip
          refine j_aload_n hx 0 dX12_pass_26 rfl ?_
          refine j_dup hx dX12_pass_27 rfl ?_
          refine g13_4 hx hG ha kf_RX12_143 rfl dX12_pass_28 ?_
          refine j_iconst hx dX12_pass_31 ?_
          refine j_iadd hx (r := (s2 a 4) + 1) dX12_pass_32 (by omega) ?_
          refine p13_4 hx hG ha kf_RX12_143 dX12_pass_33 ?_
          obtain ⟨s19, e_s19⟩ : ∃ z, z = zU s2 a 4 ((s2 a 4) + 1) := ⟨_, rfl⟩
          rw [← e_s19]
          have hS_s19 : zSK G s19 := by rw [e_s19]; exact zSK_F hS_s2 ha rfl rfl rfl (by omega)
          refine j_goto hx 0 dX12_pass_36 rfl ?_
          have g41 : s19 a 4 = (s2 a 4) + 1 := (by rw [e_s19, zU_eq])
          have g42 : s19 a 0 = s2 a 0 := (by rw [e_s19, zU_at (Or.inr (by decide))])
          have f43 := zf hS_s2 ha (k := 0) rfl
          have g44 : s19 a 3 = s2 a 3 := (by rw [e_s19, zU_at (Or.inr (by decide))])
          have g45 : s19 a 5 = s2 a 5 := (by rw [e_s19, zU_at (Or.inr (by decide))])
          have f46 := zf hS_s2 ha (k := 5) rfl
          have g47 : s19 a 7 = s2 a 7 := (by rw [e_s19, zU_at (Or.inr (by decide))])
          have f48 := zf hS_s2 ha (k := 7) rfl
          have g49 : s19 a 21 = s2 a 21 := (by rw [e_s19, zU_at (Or.inr (by decide))])
          have f50 := zf hS_s2 ha (k := 21) rfl
          have g51 : s19 a 22 = s2 a 22 := (by rw [e_s19, zU_at (Or.inr (by decide))])
          have f52 := zf hS_s2 ha (k := 22) rfl
          have g53 : s19 a 23 = s2 a 23 := (by rw [e_s19, zU_at (Or.inr (by decide))])
          have f54 := zf hS_s2 ha (k := 23) rfl
          have g55 : s19 a 24 = s2 a 24 := (by rw [e_s19, zU_at (Or.inr (by decide))])
          have f56 := zf hS_s2 ha (k := 24) rfl
          have g57 : s19 a 38 = s2 a 38 := (by rw [e_s19, zU_at (Or.inr (by decide))])
          have f58 := zf hS_s2 ha (k := 38) rfl
          have g59 : s19 a 51 = s2 a 51 := (by rw [e_s19, zU_at (Or.inr (by decide))])
          have f60 := zf hS_s2 ha (k := 51) rfl
          have g61 : s19 a 52 = s2 a 52 := (by rw [e_s19, zU_at (Or.inr (by decide))])
          have f62 := zf hS_s2 ha (k := 52) rfl
          exact j_sub [0] [(0, .ref a)] rfl (ih_c0_1 s19 (by omega) hS_s19 (zFr_u (zFr_t zFr_rf hF_s2 (by decide)) e_s19 ha (by decide)) (by omega) (by omega) (by omega) (by omega) (by omega) (by omega) (by omega) (by omega) (by omega) (by omega) (by omega) (by omega) (by omega) (by omega))
  exact j_sub [0] [(0, .ref a)] rfl (c0_1 (2147483648 * 4) s0 (by omega) hS0 zFr_rf (by omega) (by omega) (by omega) (by omega) (by omega) (by omega) (by omega) (by omega) (by omega) (by omega) (by omega) (by omega) (by omega) (by omega))

set_option maxHeartbeats 1200000 in
set_option maxRecDepth 20000 in
theorem c_X12_isDigit {E : zE} {l : Launch} (hst : l.stackTraces = false) (x0 : Int) : Con E l yX12_isDigit cX12_isDigit 1 (some .boolean) { frames := 0, cells := 0, slots := 0, locals := 0 } (fun G s vs => vs = [.int (zI x0)] ∧ zGK G ∧ zSK G s ∧ ((-2147483648) ≤ x0 ∧ x0 ≤ 2147483647)) (fun G s _ => pI (fun r G2 s2 => G2 = G ∧ s2 = s ∧ (0 ≤ r ∧ r ≤ 1) ∧ ((r = 1 → 48 ≤ x0 ∧ x0 ≤ 57) ∧ (r = 0 → x0 < 48 ∨ 57 < x0)))) := by
  refine Con.mk hst (by decide) (fun G s vs h => by rw [h.1]; exact Nat.le_of_ble_eq_true rfl) ?_
  rintro X G s0 vs ⟨rfl, hG, hS0, hx0⟩ rfl hx hq
  show JJ X E 1 G s0 0 0 [(0, .int (zI x0))] 0 []
  refine j_iload_n hx 0 dX12_isDigit_0 rfl ?_
  refine j_bipush hx dX12_isDigit_1 rfl ?_
  refine j_icmp_lt hx 16 dX12_isDigit_3 rfl (by omega) ⟨by decide, by decide⟩ (fun h1 => ?_) (fun h1 => ?_)
  · skip
    refine j_iconst hx dX12_isDigit_16 ?_
    exact j_zret hx hq rfl (by decide) (by decide) dX12_isDigit_17 (by omega) ⟨0, rfl, rfl, rfl, ⟨(by omega), by omega⟩⟩
  · skip
    refine j_iload_n hx 0 dX12_isDigit_6 rfl ?_
    refine j_bipush hx dX12_isDigit_7 rfl ?_
    refine j_icmp_gt hx 16 dX12_isDigit_9 rfl (by omega) ⟨by decide, by decide⟩ (fun h2 => ?_) (fun h2 => ?_)
    · skip
      refine j_iconst hx dX12_isDigit_16 ?_
      exact j_zret hx hq rfl (by decide) (by decide) dX12_isDigit_17 (by omega) ⟨0, rfl, rfl, rfl, ⟨(by omega), by omega⟩⟩
    · skip
      refine j_iconst hx dX12_isDigit_12 ?_
      refine j_goto hx 17 dX12_isDigit_13 rfl ?_
      exact j_zret hx hq rfl (by decide) (by decide) dX12_isDigit_17 (by omega) ⟨1, rfl, rfl, rfl, ⟨(by omega), by omega⟩⟩

theorem lk_RX12_166 : LkV RX12 166 RX12 yX12_fine cX12_fine 1 (some .boolean) 0 := ⟨km_RX12_166, ki_yX12_fine, ks_RX12_yX12_fine, kn_RX12, kc_yX12_fine, rfl, by decide +kernel, by decide +kernel, by decide +kernel⟩
theorem lk_RX12_170 : LkS RX12 170 yX12_isDigit cX12_isDigit 1 (some .boolean) 1 := ⟨km_RX12_170, kst_yX12_isDigit, kn_RX12, kc_yX12_isDigit, by decide +kernel, by decide +kernel, by decide +kernel⟩
theorem lk_RX12_173 : LkV RX12 173 RX12 yX12_wrong cX12_wrong 3 none 2 := ⟨km_RX12_173, ki_yX12_wrong, ks_RX12_yX12_wrong, kn_RX12, kc_yX12_wrong, rfl, by decide +kernel, by decide +kernel, by decide +kernel⟩
set_option maxHeartbeats 1200000 in
set_option maxRecDepth 20000 in
theorem c_X12_readNumber {E : zE} {l : Launch} (hst : l.stackTraces = false) (a : Nat) (x1 : Int) (x2 : Int) : Con E l yX12_readNumber cX12_readNumber 6 (some .int) { frames := 1, cells := 0, slots := 0, locals := 22 } (fun G s vs => vs = [.ref a, .int (zI x1), .int (zI x2)] ∧ zGK G ∧ zSK G s ∧ (gT G a = 13) ∧ (0 ≤ x1 ∧ x1 ≤ 1) ∧ (0 ≤ x2 ∧ x2 ≤ 9999) ∧ (s a 4 ≤ s a 3 + 2)) (fun G s _ => pI (fun r G2 s2 => G2 = G ∧ zSK G s2 ∧ zFr [13] G s s2 ∧ (0 ≤ r ∧ r ≤ 9999) ∧ s a 4 ≤ s2 a 4 ∧ s a 5 ≤ s2 a 5 ∧ x1 ≤ r + 10000 * (s2 a 5 + 1) ∧ r ≤ x2 ∧ s2 a 4 ≤ s a 3 + 2 ∧ s2 a 0 = s a 0 ∧ s2 a 3 = s a 3 ∧ s2 a 7 = s a 7 ∧ s2 a 21 = s a 21 ∧ s2 a 22 = s a 22 ∧ s2 a 23 = s a 23 ∧ s2 a 24 = s a 24 ∧ s2 a 38 = s a 38 ∧ s2 a 51 = s a 51 ∧ s2 a 52 = s a 52)) := by
  refine Con.mk hst (by decide) (fun G s vs h => by rw [h.1]; exact Nat.le_of_ble_eq_true rfl) ?_
  rintro X G s0 vs ⟨rfl, hG, hS0, ha, hx1, hx2, e0⟩ rfl hx hq
  show JJ X E 6 G s0 0 0 [(0, .ref a), (1, .int (zI x1)), (2, .int (zI x2))] 0 []
  refine j_aload_n hx 0 dX12_readNumber_0 rfl ?_
  refine j_callV hx hG (c_X12_fine hst a) lk_RX12_166 ha (by decide) rfl rfl rfl rfl [] ⟨rfl, hG, hS0, ha⟩ rfl rfl ⟨by decide, by decide⟩ ⟨by decide, by decide⟩ (k2 := 0) (n2 := 0) rfl rfl (Nat.le_of_ble_eq_true rfl) dX12_readNumber_1 (kIP (fun v1 q2 => ?_))
  refine j_if_ne hx 9 dX12_readNumber_4 rfl (by omega) (fun h3 => ?_) (fun h3 => ?_)
  · skip
    refine j_aload_n hx 0 dX12_readNumber_9 rfl ?_
    have f4 := zf hS0 ha (k := 4) rfl
    have f5 := zf hS0 ha (k := 3) rfl
    have f6 := zf hS0 ha (k := 0) rfl
    have f7 := zf hS0 ha (k := 5) rfl
    have f8 := zf hS0 ha (k := 7) rfl
    have f9 := zf hS0 ha (k := 21) rfl
    have f10 := zf hS0 ha (k := 22) rfl
    have f11 := zf hS0 ha (k := 23) rfl
    have f12 := zf hS0 ha (k := 24) rfl
    have f13 := zf hS0 ha (k := 38) rfl
    have f14 := zf hS0 ha (k := 51) rfl
    have f15 := zf hS0 ha (k := 52) rfl
    refine j_callV hx hG (c_X12_here hst a) lk_RX12_149 ha (by decide) rfl rfl rfl rfl [] ⟨rfl, hG, hS0, ha, (by omega)⟩ rfl rfl ⟨by decide, by decide⟩ ⟨by decide, by decide⟩ (k2 := 0) (n2 := 0) rfl rfl (Nat.le_of_ble_eq_true rfl) dX12_readNumber_10 (kIM (fun v16 s1 hS_s1 hF_s1 q17 => ?_))
    refine j_istore_n hx [(3, .int (zI v16)), (0, .ref a), (1, .int (zI x1)), (2, .int (zI x2))] dX12_readNumber_13 (by decide) rfl ?_
    refine j_aload_n hx 1 dX12_readNumber_14 rfl ?_
    have f18 := zf hS_s1 ha (k := 4) rfl
    refine g13_4 hx hG ha kf_RX12_143 rfl dX12_readNumber_15 ?_
    refine j_istore hx [(4, .int (zI ((s1 a 4)))), (3, .int (zI v16)), (0, .ref a), (1, .int (zI x1)), (2, .int (zI x2))] dX12_readNumber_18 (by decide) rfl ?_
    refine j_iconst hx dX12_readNumber_20 ?_
    refine j_istore hx [(5, .int (zI 0)), (4, .int (zI ((s1 a 4)))), (3, .int (zI v16)), (0, .ref a), (1, .int (zI x1)), (2, .int (zI x2))] dX12_readNumber_21 (by decide) rfl ?_
    refine j_iload_n hx 2 dX12_readNumber_23 rfl ?_
    refine j_callS hx (c_X12_isDigit hst v16) lk_RX12_170 [.int (zI v16)] ⟨rfl, hG, hS_s1, (by omega)⟩ rfl rfl ⟨by decide, by decide⟩ ⟨by decide, by decide⟩ (k2 := 0) (n2 := 0) rfl rfl (Nat.le_of_ble_eq_true rfl) dX12_readNumber_24 (kIP (fun v19 q20 => ?_))
    have f22 := zf hS_s1 ha (k := 0) rfl
    have f23 := zf hS_s1 ha (k := 3) rfl
    have f24 := zf hS_s1 ha (k := 5) rfl
    have f25 := zf hS_s1 ha (k := 7) rfl
    have f26 := zf hS_s1 ha (k := 21) rfl
    have f27 := zf hS_s1 ha (k := 22) rfl
    have f28 := zf hS_s1 ha (k := 23) rfl
    have f29 := zf hS_s1 ha (k := 24) rfl
    have f30 := zf hS_s1 ha (k := 38) rfl
    have f31 := zf hS_s1 ha (k := 51) rfl
    have f32 := zf hS_s1 ha (k := 52) rfl
    have c41_2 : ∀ (m_c41_2 : Nat) (v21 : Int) (s3 : zS), 1000 - s3 a 4 < m_c41_2 → (0 ≤ v21 ∧ v21 ≤ 100100) → (zSK G s3) → (zFr [13] G s1 s3) → (s3 a 0 = s1 a 0) → (s3 a 3 = s1 a 3) → (s3 a 5 = s1 a 5) → (s3 a 7 = s1 a 7) → (s3 a 21 = s1 a 21) → (s3 a 22 = s1 a 22) → (s3 a 23 = s1 a 23) → (s3 a 24 = s1 a 24) → (s3 a 38 = s1 a 38) → (s3 a 51 = s1 a 51) → (s3 a 52 = s1 a 52) → (s1 a 4 ≤ s3 a 4) → (s3 a 4 ≤ s3 a 3 + 2) → JJ X E 6 G s3 0 0 [(0, .ref a), (1, .int (zI x1)), (2, .int (zI x2)), (4, .int (zI ((s1 a 4)))), (5, .int (zI v21))] 41 [] := by
      intro m_c41_2
      induction m_c41_2 with
      | zero => intro v21 s3 hm_c41_2 fA4 hS_s3 hF_s3 fA7 fA8 fA9 fA10 fA11 fA12 fA13 fA14 fA15 fA16 fA17 fA18 fA19; exfalso; omega
      | succ m_c41_2 ih_c41_2 => 
        intro v21 s3 hm_c41_2 fA4 hS_s3 hF_s3 fA7 fA8 fA9 fA10 fA11 fA12 fA13 fA14 fA15 fA16 fA17 fA18 fA19
        refine j_aload_n hx 0 dX12_readNumber_41 rfl ?_
        have f33 := zf hS_s3 ha (k := 4) rfl
        refine g13_4 hx hG ha kf_RX12_143 rfl dX12_readNumber_42 ?_
        refine j_aload_n hx 0 dX12_readNumber_45 rfl ?_
        have f34 := zf hS_s3 ha (k := 3) rfl
        refine g13_3 hx hG ha kf_RX12_146 rfl dX12_readNumber_46 ?_
        refine j_icmp_ge hx 114 dX12_readNumber_49 rfl (by omega) (by omega) (fun h35 => ?_) (fun h35 => ?_)
        · skip
          refine j_iload hx 4 dX12_readNumber_114 rfl ?_
          refine j_iload_n hx 1 dX12_readNumber_116 rfl ?_
          refine j_icmp_lt hx 126 dX12_readNumber_117 rfl (by omega) (by omega) (fun h36 => ?_) (fun h36 => ?_)
          · skip
            refine j_aload_n hx 0 dX12_readNumber_126 rfl ?_
            refine j_iconst hx dX12_readNumber_127 ?_
            refine j_iload hx 3 dX12_readNumber_128 rfl ?_
            have f37 := zf hS_s3 ha (k := 5) rfl
            have f38 := zf hS_s3 ha (k := 0) rfl
            have f39 := zf hS_s3 ha (k := 7) rfl
            have f40 := zf hS_s3 ha (k := 21) rfl
            have f41 := zf hS_s3 ha (k := 22) rfl
            have f42 := zf hS_s3 ha (k := 23) rfl
            have f43 := zf hS_s3 ha (k := 24) rfl
            have f44 := zf hS_s3 ha (k := 38) rfl
            have f45 := zf hS_s3 ha (k := 51) rfl
            have f46 := zf hS_s3 ha (k := 52) rfl
            refine j_callV hx hG (c_X12_wrong hst a 2 ((s1 a 4))) lk_RX12_173 ha (by decide) rfl rfl rfl rfl [.int (zI 2), .int (zI ((s1 a 4)))] ⟨rfl, hG, hS_s3, ha, (by omega), (by omega)⟩ rfl rfl ⟨by decide, by decide⟩ ⟨by decide, by decide⟩ (k2 := 0) (n2 := 0) rfl rfl (Nat.le_of_ble_eq_true rfl) dX12_readNumber_130 (kVM (fun s20 hS_s20 hF_s20 q48 => ?_))
            refine j_iconst hx dX12_readNumber_133 ?_
            have f49 := zf hS_s20 ha (k := 4) rfl
            have f50 := zf hS_s20 ha (k := 5) rfl
            have f51 := zf hS_s20 ha (k := 0) rfl
            have f52 := zf hS_s20 ha (k := 3) rfl
            have f53 := zf hS_s20 ha (k := 7) rfl
            have f54 := zf hS_s20 ha (k := 21) rfl
            have f55 := zf hS_s20 ha (k := 22) rfl
            have f56 := zf hS_s20 ha (k := 23) rfl
            have f57 := zf hS_s20 ha (k := 24) rfl
            have f58 := zf hS_s20 ha (k := 38) rfl
            have f59 := zf hS_s20 ha (k := 51) rfl
            have f60 := zf hS_s20 ha (k := 52) rfl
            exact j_iret hx hq rfl (by decide) (by decide) dX12_readNumber_134 ⟨0, rfl, rfl, hS_s20, (zFr_t (zFr_t (zFr_t zFr_rf hF_s1 (by decide)) hF_s3 (by decide)) hF_s20 (by decide)), ⟨(by omega), by omega, by omega, by omega, by omega, by omega, by omega, by omega, by omega, by omega, by omega, by omega, by omega, by omega, by omega, by omega⟩⟩
          · skip
            refine j_iload hx 4 dX12_readNumber_120 rfl ?_
            refine j_iload_n hx 2 dX12_readNumber_122 rfl ?_
            refine j_icmp_le hx 135 dX12_readNumber_123 rfl (by omega) (by omega) (fun h61 => ?_) (fun h61 => ?_)
            · skip
              refine j_iload hx 4 dX12_readNumber_135 rfl ?_
              have f62 := zf hS_s3 ha (k := 5) rfl
              have f63 := zf hS_s3 ha (k := 0) rfl
              have f64 := zf hS_s3 ha (k := 7) rfl
              have f65 := zf hS_s3 ha (k := 21) rfl
              have f66 := zf hS_s3 ha (k := 22) rfl
              have f67 := zf hS_s3 ha (k := 23) rfl
              have f68 := zf hS_s3 ha (k := 24) rfl
              have f69 := zf hS_s3 ha (k := 38) rfl
              have f70 := zf hS_s3 ha (k := 51) rfl
              have f71 := zf hS_s3 ha (k := 52) rfl
              exact j_iret hx hq rfl (by decide) (by decide) dX12_readNumber_137 ⟨v21, rfl, rfl, hS_s3, (zFr_t (zFr_t zFr_rf hF_s1 (by decide)) hF_s3 (by decide)), ⟨(by omega), by omega, by omega, by omega, by omega, by omega, by omega, by omega, by omega, by omega, by omega, by omega, by omega, by omega, by omega, by omega⟩⟩
            · skip
              refine j_aload_n hx 0 dX12_readNumber_126 rfl ?_
              refine j_iconst hx dX12_readNumber_127 ?_
              refine j_iload hx 3 dX12_readNumber_128 rfl ?_
              have f72 := zf hS_s3 ha (k := 5) rfl
              have f73 := zf hS_s3 ha (k := 0) rfl
              have f74 := zf hS_s3 ha (k := 7) rfl
              have f75 := zf hS_s3 ha (k := 21) rfl
              have f76 := zf hS_s3 ha (k := 22) rfl
              have f77 := zf hS_s3 ha (k := 23) rfl
              have f78 := zf hS_s3 ha (k := 24) rfl
              have f79 := zf hS_s3 ha (k := 38) rfl
              have f80 := zf hS_s3 ha (k := 51) rfl
              have f81 := zf hS_s3 ha (k := 52) rfl
              refine j_callV hx hG (c_X12_wrong hst a 2 ((s1 a 4))) lk_RX12_173 ha (by decide) rfl rfl rfl rfl [.int (zI 2), .int (zI ((s1 a 4)))] ⟨rfl, hG, hS_s3, ha, (by omega), (by omega)⟩ rfl rfl ⟨by decide, by decide⟩ ⟨by decide, by decide⟩ (k2 := 0) (n2 := 0) rfl rfl (Nat.le_of_ble_eq_true rfl) dX12_readNumber_130 (kVM (fun s21 hS_s21 hF_s21 q83 => ?_))
              refine j_iconst hx dX12_readNumber_133 ?_
              have f84 := zf hS_s21 ha (k := 4) rfl
              have f85 := zf hS_s21 ha (k := 5) rfl
              have f86 := zf hS_s21 ha (k := 0) rfl
              have f87 := zf hS_s21 ha (k := 3) rfl
              have f88 := zf hS_s21 ha (k := 7) rfl
              have f89 := zf hS_s21 ha (k := 21) rfl
              have f90 := zf hS_s21 ha (k := 22) rfl
              have f91 := zf hS_s21 ha (k := 23) rfl
              have f92 := zf hS_s21 ha (k := 24) rfl
              have f93 := zf hS_s21 ha (k := 38) rfl
              have f94 := zf hS_s21 ha (k := 51) rfl
              have f95 := zf hS_s21 ha (k := 52) rfl
              exact j_iret hx hq rfl (by decide) (by decide) dX12_readNumber_134 ⟨0, rfl, rfl, hS_s21, (zFr_t (zFr_t (zFr_t zFr_rf hF_s1 (by decide)) hF_s3 (by decide)) hF_s21 (by decide)), ⟨(by omega), by omega, by omega, by omega, by omega, by omega, by omega, by omega, by omega, by omega, by omega, by omega, by omega, by omega, by omega, by omega⟩⟩
        · skip
          refine j_aload_n hx 0 dX12_readNumber_52 rfl ?_
          refine g13_9 hx hG ha kf_RX12_20 dX12_readNumber_53 ?_
          refine j_aload_n hx 0 dX12_readNumber_56 rfl ?_
          refine g13_4 hx hG ha kf_RX12_143 rfl dX12_readNumber_57 ?_
          have f96 := zaI (j := ((s3 a 4)).toNat) hS0 (zr (k := 9) (t2 := 72) hG ha rfl) rfl (zlen hG (zr (k := 9) (t2 := 72) hG ha rfl) (n := 600) rfl rfl) (show 0 ≤ (s3 a 4) by omega) (by omega) rfl
          refine j_iald hx hG (zr (k := 9) (t2 := 72) hG ha rfl) (by decide) rfl (zlen hG (zr (k := 9) (t2 := 72) hG ha rfl) (n := 600) rfl rfl) (by omega) (by omega) (j := ((s3 a 4)).toNat) rfl (v := (s0 (gP G a 9) ((s3 a 4)).toNat)) (by rw [(zFr_g hF_s3 (zr (k := 9) (t2 := 72) hG ha rfl) (by decide)), (zFr_g hF_s1 (zr (k := 9) (t2 := 72) hG ha rfl) (by decide))]) dX12_readNumber_60 ?_
          refine j_callS hx (c_X12_isDigit hst ((s0 (gP G a 9) ((s3 a 4)).toNat))) lk_RX12_170 [.int (zI ((s0 (gP G a 9) ((s3 a 4)).toNat)))] ⟨rfl, hG, hS_s3, (by omega)⟩ rfl rfl ⟨by decide, by decide⟩ ⟨by decide, by decide⟩ (k2 := 0) (n2 := 0) rfl rfl (Nat.le_of_ble_eq_true rfl) dX12_readNumber_61 (kIP (fun v97 q98 => ?_))
          refine j_if_eq hx 114 dX12_readNumber_64 rfl (by omega) (fun h99 => ?_) (fun h99 => ?_)
          · skip
            refine j_iload hx 4 dX12_readNumber_114 rfl ?_
            refine j_iload_n hx 1 dX12_readNumber_116 rfl ?_
            refine j_icmp_lt hx 126 dX12_readNumber_117 rfl (by omega) (by omega) (fun h100 => ?_) (fun h100 => ?_)
            · skip
              refine j_aload_n hx 0 dX12_readNumber_126 rfl ?_
              refine j_iconst hx dX12_readNumber_127 ?_
              refine j_iload hx 3 dX12_readNumber_128 rfl ?_
              have f101 := zf hS_s3 ha (k := 5) rfl
              have f102 := zf hS_s3 ha (k := 0) rfl
              have f103 := zf hS_s3 ha (k := 7) rfl
              have f104 := zf hS_s3 ha (k := 21) rfl
              have f105 := zf hS_s3 ha (k := 22) rfl
              have f106 := zf hS_s3 ha (k := 23) rfl
              have f107 := zf hS_s3 ha (k := 24) rfl
              have f108 := zf hS_s3 ha (k := 38) rfl
              have f109 := zf hS_s3 ha (k := 51) rfl
              have f110 := zf hS_s3 ha (k := 52) rfl
              refine j_callV hx hG (c_X12_wrong hst a 2 ((s1 a 4))) lk_RX12_173 ha (by decide) rfl rfl rfl rfl [.int (zI 2), .int (zI ((s1 a 4)))] ⟨rfl, hG, hS_s3, ha, (by omega), (by omega)⟩ rfl rfl ⟨by decide, by decide⟩ ⟨by decide, by decide⟩ (k2 := 0) (n2 := 0) rfl rfl (Nat.le_of_ble_eq_true rfl) dX12_readNumber_130 (kVM (fun s22 hS_s22 hF_s22 q112 => ?_))
              refine j_iconst hx dX12_readNumber_133 ?_
              have f113 := zf hS_s22 ha (k := 4) rfl
              have f114 := zf hS_s22 ha (k := 5) rfl
              have f115 := zf hS_s22 ha (k := 0) rfl
              have f116 := zf hS_s22 ha (k := 3) rfl
              have f117 := zf hS_s22 ha (k := 7) rfl
              have f118 := zf hS_s22 ha (k := 21) rfl
              have f119 := zf hS_s22 ha (k := 22) rfl
              have f120 := zf hS_s22 ha (k := 23) rfl
              have f121 := zf hS_s22 ha (k := 24) rfl
              have f122 := zf hS_s22 ha (k := 38) rfl
              have f123 := zf hS_s22 ha (k := 51) rfl
              have f124 := zf hS_s22 ha (k := 52) rfl
              exact j_iret hx hq rfl (by decide) (by decide) dX12_readNumber_134 ⟨0, rfl, rfl, hS_s22, (zFr_t (zFr_t (zFr_t zFr_rf hF_s1 (by decide)) hF_s3 (by decide)) hF_s22 (by decide)), ⟨(by omega), by omega, by omega, by omega, by omega, by omega, by omega, by omega, by omega, by omega, by omega, by omega, by omega, by omega, by omega, by omega⟩⟩
            · skip
              refine j_iload hx 4 dX12_readNumber_120 rfl ?_
              refine j_iload_n hx 2 dX12_readNumber_122 rfl ?_
              refine j_icmp_le hx 135 dX12_readNumber_123 rfl (by omega) (by omega) (fun h125 => ?_) (fun h125 => ?_)
              · skip
                refine j_iload hx 4 dX12_readNumber_135 rfl ?_
                have f126 := zf hS_s3 ha (k := 5) rfl
                have f127 := zf hS_s3 ha (k := 0) rfl
                have f128 := zf hS_s3 ha (k := 7) rfl
                have f129 := zf hS_s3 ha (k := 21) rfl
                have f130 := zf hS_s3 ha (k := 22) rfl
                have f131 := zf hS_s3 ha (k := 23) rfl
                have f132 := zf hS_s3 ha (k := 24) rfl
                have f133 := zf hS_s3 ha (k := 38) rfl
                have f134 := zf hS_s3 ha (k := 51) rfl
                have f135 := zf hS_s3 ha (k := 52) rfl
                exact j_iret hx hq rfl (by decide) (by decide) dX12_readNumber_137 ⟨v21, rfl, rfl, hS_s3, (zFr_t (zFr_t zFr_rf hF_s1 (by decide)) hF_s3 (by decide)), ⟨(by omega), by omega, by omega, by omega, by omega, by omega, by omega, by omega, by omega, by omega, by omega, by omega, by omega, by omega, by omega, by omega⟩⟩
              · skip
                refine j_aload_n hx 0 dX12_readNumber_126 rfl ?_
                refine j_iconst hx dX12_readNumber_127 ?_
                refine j_iload hx 3 dX12_readNumber_128 rfl ?_
                have f136 := zf hS_s3 ha (k := 5) rfl
                have f137 := zf hS_s3 ha (k := 0) rfl
                have f138 := zf hS_s3 ha (k := 7) rfl
                have f139 := zf hS_s3 ha (k := 21) rfl
                have f140 := zf hS_s3 ha (k := 22) rfl
                have f141 := zf hS_s3 ha (k := 23) rfl
                have f142 := zf hS_s3 ha (k := 24) rfl
                have f143 := zf hS_s3 ha (k := 38) rfl
                have f144 := zf hS_s3 ha (k := 51) rfl
                have f145 := zf hS_s3 ha (k := 52) rfl
                refine j_callV hx hG (c_X12_wrong hst a 2 ((s1 a 4))) lk_RX12_173 ha (by decide) rfl rfl rfl rfl [.int (zI 2), .int (zI ((s1 a 4)))] ⟨rfl, hG, hS_s3, ha, (by omega), (by omega)⟩ rfl rfl ⟨by decide, by decide⟩ ⟨by decide, by decide⟩ (k2 := 0) (n2 := 0) rfl rfl (Nat.le_of_ble_eq_true rfl) dX12_readNumber_130 (kVM (fun s23 hS_s23 hF_s23 q147 => ?_))
                refine j_iconst hx dX12_readNumber_133 ?_
                have f148 := zf hS_s23 ha (k := 4) rfl
                have f149 := zf hS_s23 ha (k := 5) rfl
                have f150 := zf hS_s23 ha (k := 0) rfl
                have f151 := zf hS_s23 ha (k := 3) rfl
                have f152 := zf hS_s23 ha (k := 7) rfl
                have f153 := zf hS_s23 ha (k := 21) rfl
                have f154 := zf hS_s23 ha (k := 22) rfl
                have f155 := zf hS_s23 ha (k := 23) rfl
                have f156 := zf hS_s23 ha (k := 24) rfl
                have f157 := zf hS_s23 ha (k := 38) rfl
                have f158 := zf hS_s23 ha (k := 51) rfl
                have f159 := zf hS_s23 ha (k := 52) rfl
                exact j_iret hx hq rfl (by decide) (by decide) dX12_readNumber_134 ⟨0, rfl, rfl, hS_s23, (zFr_t (zFr_t (zFr_t zFr_rf hF_s1 (by decide)) hF_s3 (by decide)) hF_s23 (by decide)), ⟨(by omega), by omega, by omega, by omega, by omega, by omega, by omega, by omega, by omega, by omega, by omega, by omega, by omega, by omega, by omega, by omega⟩⟩
          · skip
            refine j_iload hx 4 dX12_readNumber_67 rfl ?_
            refine j_sipush hx dX12_readNumber_69 rfl ?_
            refine j_icmp_le hx 81 dX12_readNumber_72 rfl (by omega) ⟨by decide, by decide⟩ (fun h160 => ?_) (fun h160 => ?_)
            · skip
              refine j_bipush hx dX12_readNumber_81 rfl ?_
              refine j_iload hx 4 dX12_readNumber_83 rfl ?_
              refine j_imul hx (r := 10 * v21) dX12_readNumber_85 rfl ?_
              refine j_aload_n hx 0 dX12_readNumber_86 rfl ?_
              refine g13_9 hx hG ha kf_RX12_20 dX12_readNumber_87 ?_
              refine j_aload_n hx 0 dX12_readNumber_90 rfl ?_
              refine g13_4 hx hG ha kf_RX12_143 rfl dX12_readNumber_91 ?_
              refine j_iald hx hG (zr (k := 9) (t2 := 72) hG ha rfl) (by decide) rfl (zlen hG (zr (k := 9) (t2 := 72) hG ha rfl) (n := 600) rfl rfl) (by omega) (by omega) (j := ((s3 a 4)).toNat) rfl (v := (s0 (gP G a 9) ((s3 a 4)).toNat)) (by rw [(zFr_g hF_s3 (zr (k := 9) (t2 := 72) hG ha rfl) (by decide)), (zFr_g hF_s1 (zr (k := 9) (t2 := 72) hG ha rfl) (by decide))]) dX12_readNumber_94 ?_
              refine j_iadd hx (r := 10 * v21 + (s0 (gP G a 9) ((s3 a 4)).toNat)) dX12_readNumber_95 (by omega) ?_
              refine j_bipush hx dX12_readNumber_96 rfl ?_
              refine j_isub hx (r := 10 * v21 + (s0 (gP G a 9) ((s3 a 4)).toNat) - 48) dX12_readNumber_98 (by omega) ?_
              refine j_istore hx [(5, .int (zI (10 * v21 + (s0 (gP G a 9) ((s3 a 4)).toNat) - 48))), (0, .ref a), (1, .int (zI x1)), (2, .int (zI x2)), (4, .int (zI ((s1 a 4))))] dX12_readNumber_99 (by decide) rfl ?_
              refine j_aload_n hx 1 dX12_readNumber_101 rfl ?_
              refine j_dup hx dX12_readNumber_102 rfl ?_
              refine g13_4 hx hG ha kf_RX12_143 rfl dX12_readNumber_103 ?_
              refine j_iconst hx dX12_readNumber_106 ?_
              refine j_iadd hx (r := (s3 a 4) + 1) dX12_readNumber_107 (by omega) ?_
              refine p13_4 hx hG ha kf_RX12_143 dX12_readNumber_108 ?_
              obtain ⟨s24, e_s24⟩ : ∃ z, z = zU s3 a 4 ((s3 a 4) + 1) := ⟨_, rfl⟩
              rw [← e_s24]
              have hS_s24 : zSK G s24 := by rw [e_s24]; exact zSK_F hS_s3 ha rfl rfl rfl (by omega)
              refine j_goto hx 41 dX12_readNumber_111 rfl ?_
              have g161 : s24 a 4 = (s3 a 4) + 1 := (by rw [e_s24, zU_eq])
              have g162 : s24 a 0 = s3 a 0 := (by rw [e_s24, zU_at (Or.inr (by decide))])
              have f163 := zf hS_s3 ha (k := 0) rfl
              have g164 : s24 a 3 = s3 a 3 := (by rw [e_s24, zU_at (Or.inr (by decide))])
              have g165 : s24 a 5 = s3 a 5 := (by rw [e_s24, zU_at (Or.inr (by decide))])
              have f166 := zf hS_s3 ha (k := 5) rfl
              have g167 : s24 a 7 = s3 a 7 := (by rw [e_s24, zU_at (Or.inr (by decide))])
              have f168 := zf hS_s3 ha (k := 7) rfl
              have g169 : s24 a 21 = s3 a 21 := (by rw [e_s24, zU_at (Or.inr (by decide))])
              have f170 := zf hS_s3 ha (k := 21) rfl
              have g171 : s24 a 22 = s3 a 22 := (by rw [e_s24, zU_at (Or.inr (by decide))])
              have f172 := zf hS_s3 ha (k := 22) rfl
              have g173 : s24 a 23 = s3 a 23 := (by rw [e_s24, zU_at (Or.inr (by decide))])
              have f174 := zf hS_s3 ha (k := 23) rfl
              have g175 : s24 a 24 = s3 a 24 := (by rw [e_s24, zU_at (Or.inr (by decide))])
              have f176 := zf hS_s3 ha (k := 24) rfl
              have g177 : s24 a 38 = s3 a 38 := (by rw [e_s24, zU_at (Or.inr (by decide))])
              have f178 := zf hS_s3 ha (k := 38) rfl
              have g179 : s24 a 51 = s3 a 51 := (by rw [e_s24, zU_at (Or.inr (by decide))])
              have f180 := zf hS_s3 ha (k := 51) rfl
              have g181 : s24 a 52 = s3 a 52 := (by rw [e_s24, zU_at (Or.inr (by decide))])
              have f182 := zf hS_s3 ha (k := 52) rfl
              exact j_sub [1, 2, 3, 4, 0] [(0, .ref a), (1, .int (zI x1)), (2, .int (zI x2)), (4, .int (zI ((s1 a 4)))), (5, .int (zI (10 * v21 + (s0 (gP G a 9) ((s3 a 4)).toNat) - 48)))] rfl (ih_c41_2 (10 * v21 + (s0 (gP G a 9) ((s3 a 4)).toNat) - 48) s24 (by omega) (by omega) hS_s24 (zFr_u (zFr_t zFr_rf hF_s3 (by decide)) e_s24 ha (by decide)) (by omega) (by omega) (by omega) (by omega) (by omega) (by omega) (by omega) (by omega) (by omega) (by omega) (by omega) (by omega) (by omega))
            · skip
              refine j_sipush hx dX12_readNumber_75 rfl ?_
              refine j_goto hx 99 dX12_readNumber_78 rfl ?_
              refine j_istore hx [(5, .int (zI 10000)), (0, .ref a), (1, .int (zI x1)), (2, .int (zI x2)), (4, .int (zI ((s1 a 4))))] dX12_readNumber_99 (by decide) rfl ?_
              refine j_aload_n hx 1 dX12_readNumber_101 rfl ?_
              refine j_dup hx dX12_readNumber_102 rfl ?_
              refine g13_4 hx hG ha kf_RX12_143 rfl dX12_readNumber_103 ?_
              refine j_iconst hx dX12_readNumber_106 ?_
              refine j_iadd hx (r := (s3 a 4) + 1) dX12_readNumber_107 (by omega) ?_
              refine p13_4 hx hG ha kf_RX12_143 dX12_readNumber_108 ?_
              obtain ⟨s25, e_s25⟩ : ∃ z, z = zU s3 a 4 ((s3 a 4) + 1) := ⟨_, rfl⟩
              rw [← e_s25]
              have hS_s25 : zSK G s25 := by rw [e_s25]; exact zSK_F hS_s3 ha rfl rfl rfl (by omega)
              refine j_goto hx 41 dX12_readNumber_111 rfl ?_
              have g183 : s25 a 4 = (s3 a 4) + 1 := (by rw [e_s25, zU_eq])
              have g184 : s25 a 0 = s3 a 0 := (by rw [e_s25, zU_at (Or.inr (by decide))])
              have f185 := zf hS_s3 ha (k := 0) rfl
              have g186 : s25 a 3 = s3 a 3 := (by rw [e_s25, zU_at (Or.inr (by decide))])
              have g187 : s25 a 5 = s3 a 5 := (by rw [e_s25, zU_at (Or.inr (by decide))])
              have f188 := zf hS_s3 ha (k := 5) rfl
              have g189 : s25 a 7 = s3 a 7 := (by rw [e_s25, zU_at (Or.inr (by decide))])
              have f190 := zf hS_s3 ha (k := 7) rfl
              have g191 : s25 a 21 = s3 a 21 := (by rw [e_s25, zU_at (Or.inr (by decide))])
              have f192 := zf hS_s3 ha (k := 21) rfl
              have g193 : s25 a 22 = s3 a 22 := (by rw [e_s25, zU_at (Or.inr (by decide))])
              have f194 := zf hS_s3 ha (k := 22) rfl
              have g195 : s25 a 23 = s3 a 23 := (by rw [e_s25, zU_at (Or.inr (by decide))])
              have f196 := zf hS_s3 ha (k := 23) rfl
              have g197 : s25 a 24 = s3 a 24 := (by rw [e_s25, zU_at (Or.inr (by decide))])
              have f198 := zf hS_s3 ha (k := 24) rfl
              have g199 : s25 a 38 = s3 a 38 := (by rw [e_s25, zU_at (Or.inr (by decide))])
              have f200 := zf hS_s3 ha (k := 38) rfl
              have g201 : s25 a 51 = s3 a 51 := (by rw [e_s25, zU_at (Or.inr (by decide))])
              have f202 := zf hS_s3 ha (k := 51) rfl
              have g203 : s25 a 52 = s3 a 52 := (by rw [e_s25, zU_at (Or.inr (by decide))])
              have f204 := zf hS_s3 ha (k := 52) rfl
              exact j_sub [1, 2, 3, 4, 0] [(0, .ref a), (1, .int (zI x1)), (2, .int (zI x2)), (4, .int (zI ((s1 a 4)))), (5, .int (zI 10000))] rfl (ih_c41_2 10000 s25 (by omega) (by omega) hS_s25 (zFr_u (zFr_t zFr_rf hF_s3 (by decide)) e_s25 ha (by decide)) (by omega) (by omega) (by omega) (by omega) (by omega) (by omega) (by omega) (by omega) (by omega) (by omega) (by omega) (by omega) (by omega))
    refine j_if_ne hx 41 dX12_readNumber_27 rfl (by omega) (fun h205 => ?_) (fun h205 => ?_)
    · skip
      exact j_sub [3, 4, 5, 1, 0] [(0, .ref a), (1, .int (zI x1)), (2, .int (zI x2)), (4, .int (zI ((s1 a 4)))), (5, .int (zI 0))] rfl (c41_2 (2147483648 * 4) 0 s1 (by omega) (by omega) hS_s1 zFr_rf (by omega) (by omega) (by omega) (by omega) (by omega) (by omega) (by omega) (by omega) (by omega) (by omega) (by omega) (by omega) (by omega))
    · skip
      refine j_aload_n hx 3 dX12_readNumber_30 rfl ?_
      refine j_iconst hx dX12_readNumber_31 ?_
      refine j_aload_n hx 3 dX12_readNumber_32 rfl ?_
      refine g13_4 hx hG ha kf_RX12_143 rfl dX12_readNumber_33 ?_
      refine j_callV hx hG (c_X12_wrong hst a 1 ((s1 a 4))) lk_RX12_173 ha (by decide) rfl rfl rfl rfl [.int (zI 1), .int (zI ((s1 a 4)))] ⟨rfl, hG, hS_s1, ha, (by omega), (by omega)⟩ rfl rfl ⟨by decide, by decide⟩ ⟨by decide, by decide⟩ (k2 := 0) (n2 := 0) rfl rfl (Nat.le_of_ble_eq_true rfl) dX12_readNumber_36 (kVM (fun s26 hS_s26 hF_s26 q207 => ?_))
      refine j_iconst hx dX12_readNumber_39 ?_
      have f208 := zf hS_s26 ha (k := 4) rfl
      have f209 := zf hS_s26 ha (k := 5) rfl
      have f210 := zf hS_s26 ha (k := 0) rfl
      have f211 := zf hS_s26 ha (k := 3) rfl
      have f212 := zf hS_s26 ha (k := 7) rfl
      have f213 := zf hS_s26 ha (k := 21) rfl
      have f214 := zf hS_s26 ha (k := 22) rfl
      have f215 := zf hS_s26 ha (k := 23) rfl
      have f216 := zf hS_s26 ha (k := 24) rfl
      have f217 := zf hS_s26 ha (k := 38) rfl
      have f218 := zf hS_s26 ha (k := 51) rfl
      have f219 := zf hS_s26 ha (k := 52) rfl
      exact j_iret hx hq rfl (by decide) (by decide) dX12_readNumber_40 ⟨0, rfl, rfl, hS_s26, (zFr_t (zFr_t zFr_rf hF_s1 (by decide)) hF_s26 (by decide)), ⟨(by omega), by omega, by omega, by omega, by omega, by omega, by omega, by omega, by omega, by omega, by omega, by omega, by omega, by omega, by omega, by omega⟩⟩
  · skip
    refine j_iconst hx dX12_readNumber_7 ?_
    have f220 := zf hS0 ha (k := 4) rfl
    have f221 := zf hS0 ha (k := 5) rfl
    have f222 := zf hS0 ha (k := 3) rfl
    have f223 := zf hS0 ha (k := 0) rfl
    have f224 := zf hS0 ha (k := 7) rfl
    have f225 := zf hS0 ha (k := 21) rfl
    have f226 := zf hS0 ha (k := 22) rfl
    have f227 := zf hS0 ha (k := 23) rfl
    have f228 := zf hS0 ha (k := 24) rfl
    have f229 := zf hS0 ha (k := 38) rfl
    have f230 := zf hS0 ha (k := 51) rfl
    have f231 := zf hS0 ha (k := 52) rfl
    exact j_iret hx hq rfl (by decide) (by decide) dX12_readNumber_8 ⟨0, rfl, rfl, hS0, zFr_rf, ⟨(by omega), by omega, by omega, by omega, by omega, by omega, by omega, by omega, by omega, by omega, by omega, by omega, by omega, by omega, by omega, by omega⟩⟩

set_option maxHeartbeats 1200000 in
set_option maxRecDepth 20000 in
theorem c_X12_readNumber_p {E : zE} {l : Launch} (hst : l.stackTraces = false) (a : Nat) (x1 : Int) (x2 : Int) : Con E l yX12_readNumber cX12_readNumber 6 (some .int) { frames := 1, cells := 0, slots := 0, locals := 22 } (fun G s vs => vs = [.ref a, .int (zI x1), .int (zI x2)] ∧ zGK G ∧ zSK G s ∧ (gT G a = 13) ∧ (0 ≤ x1 ∧ x1 ≤ 0) ∧ ((-1) ≤ x2 ∧ x2 ≤ 2) ∧ (s a 4 ≤ s a 3 + 2)) (fun G s _ => pI (fun r G2 s2 => G2 = G ∧ zSK G s2 ∧ zFr [13] G s s2 ∧ (0 ≤ r ∧ r ≤ 2) ∧ s a 4 ≤ s2 a 4 ∧ s a 5 ≤ s2 a 5 ∧ x1 ≤ r + 10000 * (s2 a 5 + 1) ∧ s2 a 4 ≤ s a 3 + 2 ∧ s2 a 0 = s a 0 ∧ s2 a 3 = s a 3 ∧ s2 a 7 = s a 7 ∧ s2 a 21 = s a 21 ∧ s2 a 22 = s a 22 ∧ s2 a 23 = s a 23 ∧ s2 a 24 = s a 24 ∧ s2 a 38 = s a 38 ∧ s2 a 51 = s a 51 ∧ s2 a 52 = s a 52)) := by
  refine Con.mk hst (by decide) (fun G s vs h => by rw [h.1]; exact Nat.le_of_ble_eq_true rfl) ?_
  rintro X G s0 vs ⟨rfl, hG, hS0, ha, hx1, hx2, e0⟩ rfl hx hq
  show JJ X E 6 G s0 0 0 [(0, .ref a), (1, .int (zI x1)), (2, .int (zI x2))] 0 []
  refine j_aload_n hx 0 dX12_readNumber_0 rfl ?_
  refine j_callV hx hG (c_X12_fine hst a) lk_RX12_166 ha (by decide) rfl rfl rfl rfl [] ⟨rfl, hG, hS0, ha⟩ rfl rfl ⟨by decide, by decide⟩ ⟨by decide, by decide⟩ (k2 := 0) (n2 := 0) rfl rfl (Nat.le_of_ble_eq_true rfl) dX12_readNumber_1 (kIP (fun v1 q2 => ?_))
  refine j_if_ne hx 9 dX12_readNumber_4 rfl (by omega) (fun h3 => ?_) (fun h3 => ?_)
  · skip
    refine j_aload_n hx 0 dX12_readNumber_9 rfl ?_
    have f4 := zf hS0 ha (k := 4) rfl
    have f5 := zf hS0 ha (k := 3) rfl
    have f6 := zf hS0 ha (k := 0) rfl
    have f7 := zf hS0 ha (k := 5) rfl
    have f8 := zf hS0 ha (k := 7) rfl
    have f9 := zf hS0 ha (k := 21) rfl
    have f10 := zf hS0 ha (k := 22) rfl
    have f11 := zf hS0 ha (k := 23) rfl
    have f12 := zf hS0 ha (k := 24) rfl
    have f13 := zf hS0 ha (k := 38) rfl
    have f14 := zf hS0 ha (k := 51) rfl
    have f15 := zf hS0 ha (k := 52) rfl
    refine j_callV hx hG (c_X12_here hst a) lk_RX12_149 ha (by decide) rfl rfl rfl rfl [] ⟨rfl, hG, hS0, ha, (by omega)⟩ rfl rfl ⟨by decide, by decide⟩ ⟨by decide, by decide⟩ (k2 := 0) (n2 := 0) rfl rfl (Nat.le_of_ble_eq_true rfl) dX12_readNumber_10 (kIM (fun v16 s1 hS_s1 hF_s1 q17 => ?_))
    refine j_istore_n hx [(3, .int (zI v16)), (0, .ref a), (1, .int (zI x1)), (2, .int (zI x2))] dX12_readNumber_13 (by decide) rfl ?_
    refine j_aload_n hx 1 dX12_readNumber_14 rfl ?_
    have f18 := zf hS_s1 ha (k := 4) rfl
    refine g13_4 hx hG ha kf_RX12_143 rfl dX12_readNumber_15 ?_
    refine j_istore hx [(4, .int (zI ((s1 a 4)))), (3, .int (zI v16)), (0, .ref a), (1, .int (zI x1)), (2, .int (zI x2))] dX12_readNumber_18 (by decide) rfl ?_
    refine j_iconst hx dX12_readNumber_20 ?_
    refine j_istore hx [(5, .int (zI 0)), (4, .int (zI ((s1 a 4)))), (3, .int (zI v16)), (0, .ref a), (1, .int (zI x1)), (2, .int (zI x2))] dX12_readNumber_21 (by decide) rfl ?_
    refine j_iload_n hx 2 dX12_readNumber_23 rfl ?_
    refine j_callS hx (c_X12_isDigit hst v16) lk_RX12_170 [.int (zI v16)] ⟨rfl, hG, hS_s1, (by omega)⟩ rfl rfl ⟨by decide, by decide⟩ ⟨by decide, by decide⟩ (k2 := 0) (n2 := 0) rfl rfl (Nat.le_of_ble_eq_true rfl) dX12_readNumber_24 (kIP (fun v19 q20 => ?_))
    have f22 := zf hS_s1 ha (k := 0) rfl
    have f23 := zf hS_s1 ha (k := 3) rfl
    have f24 := zf hS_s1 ha (k := 5) rfl
    have f25 := zf hS_s1 ha (k := 7) rfl
    have f26 := zf hS_s1 ha (k := 21) rfl
    have f27 := zf hS_s1 ha (k := 22) rfl
    have f28 := zf hS_s1 ha (k := 23) rfl
    have f29 := zf hS_s1 ha (k := 24) rfl
    have f30 := zf hS_s1 ha (k := 38) rfl
    have f31 := zf hS_s1 ha (k := 51) rfl
    have f32 := zf hS_s1 ha (k := 52) rfl
    have c41_2 : ∀ (m_c41_2 : Nat) (v21 : Int) (s3 : zS), 1000 - s3 a 4 < m_c41_2 → (0 ≤ v21 ∧ v21 ≤ 100100) → (zSK G s3) → (zFr [13] G s1 s3) → (s3 a 0 = s1 a 0) → (s3 a 3 = s1 a 3) → (s3 a 5 = s1 a 5) → (s3 a 7 = s1 a 7) → (s3 a 21 = s1 a 21) → (s3 a 22 = s1 a 22) → (s3 a 23 = s1 a 23) → (s3 a 24 = s1 a 24) → (s3 a 38 = s1 a 38) → (s3 a 51 = s1 a 51) → (s3 a 52 = s1 a 52) → (s1 a 4 ≤ s3 a 4) → (s3 a 4 ≤ s3 a 3 + 2) → JJ X E 6 G s3 0 0 [(0, .ref a), (1, .int (zI x1)), (2, .int (zI x2)), (4, .int (zI ((s1 a 4)))), (5, .int (zI v21))] 41 [] := by
      intro m_c41_2
      induction m_c41_2 with
      | zero => intro v21 s3 hm_c41_2 fA4 hS_s3 hF_s3 fA7 fA8 fA9 fA10 fA11 fA12 fA13 fA14 fA15 fA16 fA17 fA18 fA19; exfalso; omega
      | succ m_c41_2 ih_c41_2 => 
        intro v21 s3 hm_c41_2 fA4 hS_s3 hF_s3 fA7 fA8 fA9 fA10 fA11 fA12 fA13 fA14 fA15 fA16 fA17 fA18 fA19
        refine j_aload_n hx 0 dX12_readNumber_41 rfl ?_
        have f33 := zf hS_s3 ha (k := 4) rfl
        refine g13_4 hx hG ha kf_RX12_143 rfl dX12_readNumber_42 ?_
        refine j_aload_n hx 0 dX12_readNumber_45 rfl ?_
        have f34 := zf hS_s3 ha (k := 3) rfl
        refine g13_3 hx hG ha kf_RX12_146 rfl dX12_readNumber_46 ?_
        refine j_icmp_ge hx 114 dX12_readNumber_49 rfl (by omega) (by omega) (fun h35 => ?_) (fun h35 => ?_)
        · skip
          refine j_iload hx 4 dX12_readNumber_114 rfl ?_
          refine j_iload_n hx 1 dX12_readNumber_116 rfl ?_
          refine j_icmp_lt hx 126 dX12_readNumber_117 rfl (by omega) (by omega) (fun h36 => absurd h36 (by omega)) (fun h36 => ?_)
          refine j_iload hx 4 dX12_readNumber_120 rfl ?_
          refine j_iload_n hx 2 dX12_readNumber_122 rfl ?_
          refine j_icmp_le hx 135 dX12_readNumber_123 rfl (by omega) (by omega) (fun h37 => ?_) (fun h37 => ?_)
          · skip
            refine j_iload hx 4 dX12_readNumber_135 rfl ?_
            have f38 := zf hS_s3 ha (k := 5) rfl
            have f39 := zf hS_s3 ha (k := 0) rfl
            have f40 := zf hS_s3 ha (k := 7) rfl
            have f41 := zf hS_s3 ha (k := 21) rfl
            have f42 := zf hS_s3 ha (k := 22) rfl
            have f43 := zf hS_s3 ha (k := 23) rfl
            have f44 := zf hS_s3 ha (k := 24) rfl
            have f45 := zf hS_s3 ha (k := 38) rfl
            have f46 := zf hS_s3 ha (k := 51) rfl
            have f47 := zf hS_s3 ha (k := 52) rfl
            exact j_iret hx hq rfl (by decide) (by decide) dX12_readNumber_137 ⟨v21, rfl, rfl, hS_s3, (zFr_t (zFr_t zFr_rf hF_s1 (by decide)) hF_s3 (by decide)), ⟨(by omega), by omega, by omega, by omega, by omega, by omega, by omega, by omega, by omega, by omega, by omega, by omega, by omega, by omega, by omega⟩⟩
          · skip
            refine j_aload_n hx 0 dX12_readNumber_126 rfl ?_
            refine j_iconst hx dX12_readNumber_127 ?_
            refine j_iload hx 3 dX12_readNumber_128 rfl ?_
            have f48 := zf hS_s3 ha (k := 5) rfl
            have f49 := zf hS_s3 ha (k := 0) rfl
            have f50 := zf hS_s3 ha (k := 7) rfl
            have f51 := zf hS_s3 ha (k := 21) rfl
            have f52 := zf hS_s3 ha (k := 22) rfl
            have f53 := zf hS_s3 ha (k := 23) rfl
            have f54 := zf hS_s3 ha (k := 24) rfl
            have f55 := zf hS_s3 ha (k := 38) rfl
            have f56 := zf hS_s3 ha (k := 51) rfl
            have f57 := zf hS_s3 ha (k := 52) rfl
            refine j_callV hx hG (c_X12_wrong hst a 2 ((s1 a 4))) lk_RX12_173 ha (by decide) rfl rfl rfl rfl [.int (zI 2), .int (zI ((s1 a 4)))] ⟨rfl, hG, hS_s3, ha, (by omega), (by omega)⟩ rfl rfl ⟨by decide, by decide⟩ ⟨by decide, by decide⟩ (k2 := 0) (n2 := 0) rfl rfl (Nat.le_of_ble_eq_true rfl) dX12_readNumber_130 (kVM (fun s20 hS_s20 hF_s20 q59 => ?_))
            refine j_iconst hx dX12_readNumber_133 ?_
            have f60 := zf hS_s20 ha (k := 4) rfl
            have f61 := zf hS_s20 ha (k := 5) rfl
            have f62 := zf hS_s20 ha (k := 0) rfl
            have f63 := zf hS_s20 ha (k := 3) rfl
            have f64 := zf hS_s20 ha (k := 7) rfl
            have f65 := zf hS_s20 ha (k := 21) rfl
            have f66 := zf hS_s20 ha (k := 22) rfl
            have f67 := zf hS_s20 ha (k := 23) rfl
            have f68 := zf hS_s20 ha (k := 24) rfl
            have f69 := zf hS_s20 ha (k := 38) rfl
            have f70 := zf hS_s20 ha (k := 51) rfl
            have f71 := zf hS_s20 ha (k := 52) rfl
            exact j_iret hx hq rfl (by decide) (by decide) dX12_readNumber_134 ⟨0, rfl, rfl, hS_s20, (zFr_t (zFr_t (zFr_t zFr_rf hF_s1 (by decide)) hF_s3 (by decide)) hF_s20 (by decide)), ⟨(by omega), by omega, by omega, by omega, by omega, by omega, by omega, by omega, by omega, by omega, by omega, by omega, by omega, by omega, by omega⟩⟩
        · skip
          refine j_aload_n hx 0 dX12_readNumber_52 rfl ?_
          refine g13_9 hx hG ha kf_RX12_20 dX12_readNumber_53 ?_
          refine j_aload_n hx 0 dX12_readNumber_56 rfl ?_
          refine g13_4 hx hG ha kf_RX12_143 rfl dX12_readNumber_57 ?_
          have f72 := zaI (j := ((s3 a 4)).toNat) hS0 (zr (k := 9) (t2 := 72) hG ha rfl) rfl (zlen hG (zr (k := 9) (t2 := 72) hG ha rfl) (n := 600) rfl rfl) (show 0 ≤ (s3 a 4) by omega) (by omega) rfl
          refine j_iald hx hG (zr (k := 9) (t2 := 72) hG ha rfl) (by decide) rfl (zlen hG (zr (k := 9) (t2 := 72) hG ha rfl) (n := 600) rfl rfl) (by omega) (by omega) (j := ((s3 a 4)).toNat) rfl (v := (s0 (gP G a 9) ((s3 a 4)).toNat)) (by rw [(zFr_g hF_s3 (zr (k := 9) (t2 := 72) hG ha rfl) (by decide)), (zFr_g hF_s1 (zr (k := 9) (t2 := 72) hG ha rfl) (by decide))]) dX12_readNumber_60 ?_
          refine j_callS hx (c_X12_isDigit hst ((s0 (gP G a 9) ((s3 a 4)).toNat))) lk_RX12_170 [.int (zI ((s0 (gP G a 9) ((s3 a 4)).toNat)))] ⟨rfl, hG, hS_s3, (by omega)⟩ rfl rfl ⟨by decide, by decide⟩ ⟨by decide, by decide⟩ (k2 := 0) (n2 := 0) rfl rfl (Nat.le_of_ble_eq_true rfl) dX12_readNumber_61 (kIP (fun v73 q74 => ?_))
          refine j_if_eq hx 114 dX12_readNumber_64 rfl (by omega) (fun h75 => ?_) (fun h75 => ?_)
          · skip
            refine j_iload hx 4 dX12_readNumber_114 rfl ?_
            refine j_iload_n hx 1 dX12_readNumber_116 rfl ?_
            refine j_icmp_lt hx 126 dX12_readNumber_117 rfl (by omega) (by omega) (fun h76 => absurd h76 (by omega)) (fun h76 => ?_)
            refine j_iload hx 4 dX12_readNumber_120 rfl ?_
            refine j_iload_n hx 2 dX12_readNumber_122 rfl ?_
            refine j_icmp_le hx 135 dX12_readNumber_123 rfl (by omega) (by omega) (fun h77 => ?_) (fun h77 => ?_)
            · skip
              refine j_iload hx 4 dX12_readNumber_135 rfl ?_
              have f78 := zf hS_s3 ha (k := 5) rfl
              have f79 := zf hS_s3 ha (k := 0) rfl
              have f80 := zf hS_s3 ha (k := 7) rfl
              have f81 := zf hS_s3 ha (k := 21) rfl
              have f82 := zf hS_s3 ha (k := 22) rfl
              have f83 := zf hS_s3 ha (k := 23) rfl
              have f84 := zf hS_s3 ha (k := 24) rfl
              have f85 := zf hS_s3 ha (k := 38) rfl
              have f86 := zf hS_s3 ha (k := 51) rfl
              have f87 := zf hS_s3 ha (k := 52) rfl
              exact j_iret hx hq rfl (by decide) (by decide) dX12_readNumber_137 ⟨v21, rfl, rfl, hS_s3, (zFr_t (zFr_t zFr_rf hF_s1 (by decide)) hF_s3 (by decide)), ⟨(by omega), by omega, by omega, by omega, by omega, by omega, by omega, by omega, by omega, by omega, by omega, by omega, by omega, by omega, by omega⟩⟩
            · skip
              refine j_aload_n hx 0 dX12_readNumber_126 rfl ?_
              refine j_iconst hx dX12_readNumber_127 ?_
              refine j_iload hx 3 dX12_readNumber_128 rfl ?_
              have f88 := zf hS_s3 ha (k := 5) rfl
              have f89 := zf hS_s3 ha (k := 0) rfl
              have f90 := zf hS_s3 ha (k := 7) rfl
              have f91 := zf hS_s3 ha (k := 21) rfl
              have f92 := zf hS_s3 ha (k := 22) rfl
              have f93 := zf hS_s3 ha (k := 23) rfl
              have f94 := zf hS_s3 ha (k := 24) rfl
              have f95 := zf hS_s3 ha (k := 38) rfl
              have f96 := zf hS_s3 ha (k := 51) rfl
              have f97 := zf hS_s3 ha (k := 52) rfl
              refine j_callV hx hG (c_X12_wrong hst a 2 ((s1 a 4))) lk_RX12_173 ha (by decide) rfl rfl rfl rfl [.int (zI 2), .int (zI ((s1 a 4)))] ⟨rfl, hG, hS_s3, ha, (by omega), (by omega)⟩ rfl rfl ⟨by decide, by decide⟩ ⟨by decide, by decide⟩ (k2 := 0) (n2 := 0) rfl rfl (Nat.le_of_ble_eq_true rfl) dX12_readNumber_130 (kVM (fun s21 hS_s21 hF_s21 q99 => ?_))
              refine j_iconst hx dX12_readNumber_133 ?_
              have f100 := zf hS_s21 ha (k := 4) rfl
              have f101 := zf hS_s21 ha (k := 5) rfl
              have f102 := zf hS_s21 ha (k := 0) rfl
              have f103 := zf hS_s21 ha (k := 3) rfl
              have f104 := zf hS_s21 ha (k := 7) rfl
              have f105 := zf hS_s21 ha (k := 21) rfl
              have f106 := zf hS_s21 ha (k := 22) rfl
              have f107 := zf hS_s21 ha (k := 23) rfl
              have f108 := zf hS_s21 ha (k := 24) rfl
              have f109 := zf hS_s21 ha (k := 38) rfl
              have f110 := zf hS_s21 ha (k := 51) rfl
              have f111 := zf hS_s21 ha (k := 52) rfl
              exact j_iret hx hq rfl (by decide) (by decide) dX12_readNumber_134 ⟨0, rfl, rfl, hS_s21, (zFr_t (zFr_t (zFr_t zFr_rf hF_s1 (by decide)) hF_s3 (by decide)) hF_s21 (by decide)), ⟨(by omega), by omega, by omega, by omega, by omega, by omega, by omega, by omega, by omega, by omega, by omega, by omega, by omega, by omega, by omega⟩⟩
          · skip
            refine j_iload hx 4 dX12_readNumber_67 rfl ?_
            refine j_sipush hx dX12_readNumber_69 rfl ?_
            refine j_icmp_le hx 81 dX12_readNumber_72 rfl (by omega) ⟨by decide, by decide⟩ (fun h112 => ?_) (fun h112 => ?_)
            · skip
              refine j_bipush hx dX12_readNumber_81 rfl ?_
              refine j_iload hx 4 dX12_readNumber_83 rfl ?_
              refine j_imul hx (r := 10 * v21) dX12_readNumber_85 rfl ?_
              refine j_aload_n hx 0 dX12_readNumber_86 rfl ?_
              refine g13_9 hx hG ha kf_RX12_20 dX12_readNumber_87 ?_
              refine j_aload_n hx 0 dX12_readNumber_90 rfl ?_
              refine g13_4 hx hG ha kf_RX12_143 rfl dX12_readNumber_91 ?_
              refine j_iald hx hG (zr (k := 9) (t2 := 72) hG ha rfl) (by decide) rfl (zlen hG (zr (k := 9) (t2 := 72) hG ha rfl) (n := 600) rfl rfl) (by omega) (by omega) (j := ((s3 a 4)).toNat) rfl (v := (s0 (gP G a 9) ((s3 a 4)).toNat)) (by rw [(zFr_g hF_s3 (zr (k := 9) (t2 := 72) hG ha rfl) (by decide)), (zFr_g hF_s1 (zr (k := 9) (t2 := 72) hG ha rfl) (by decide))]) dX12_readNumber_94 ?_
              refine j_iadd hx (r := 10 * v21 + (s0 (gP G a 9) ((s3 a 4)).toNat)) dX12_readNumber_95 (by omega) ?_
              refine j_bipush hx dX12_readNumber_96 rfl ?_
              refine j_isub hx (r := 10 * v21 + (s0 (gP G a 9) ((s3 a 4)).toNat) - 48) dX12_readNumber_98 (by omega) ?_
              refine j_istore hx [(5, .int (zI (10 * v21 + (s0 (gP G a 9) ((s3 a 4)).toNat) - 48))), (0, .ref a), (1, .int (zI x1)), (2, .int (zI x2)), (4, .int (zI ((s1 a 4))))] dX12_readNumber_99 (by decide) rfl ?_
              refine j_aload_n hx 1 dX12_readNumber_101 rfl ?_
              refine j_dup hx dX12_readNumber_102 rfl ?_
              refine g13_4 hx hG ha kf_RX12_143 rfl dX12_readNumber_103 ?_
              refine j_iconst hx dX12_readNumber_106 ?_
              refine j_iadd hx (r := (s3 a 4) + 1) dX12_readNumber_107 (by omega) ?_
              refine p13_4 hx hG ha kf_RX12_143 dX12_readNumber_108 ?_
              obtain ⟨s22, e_s22⟩ : ∃ z, z = zU s3 a 4 ((s3 a 4) + 1) := ⟨_, rfl⟩
              rw [← e_s22]
              have hS_s22 : zSK G s22 := by rw [e_s22]; exact zSK_F hS_s3 ha rfl rfl rfl (by omega)
              refine j_goto hx 41 dX12_readNumber_111 rfl ?_
              have g113 : s22 a 4 = (s3 a 4) + 1 := (by rw [e_s22, zU_eq])
              have g114 : s22 a 0 = s3 a 0 := (by rw [e_s22, zU_at (Or.inr (by decide))])
              have f115 := zf hS_s3 ha (k := 0) rfl
              have g116 : s22 a 3 = s3 a 3 := (by rw [e_s22, zU_at (Or.inr (by decide))])
              have g117 : s22 a 5 = s3 a 5 := (by rw [e_s22, zU_at (Or.inr (by decide))])
              have f118 := zf hS_s3 ha (k := 5) rfl
              have g119 : s22 a 7 = s3 a 7 := (by rw [e_s22, zU_at (Or.inr (by decide))])
              have f120 := zf hS_s3 ha (k := 7) rfl
              have g121 : s22 a 21 = s3 a 21 := (by rw [e_s22, zU_at (Or.inr (by decide))])
              have f122 := zf hS_s3 ha (k := 21) rfl
              have g123 : s22 a 22 = s3 a 22 := (by rw [e_s22, zU_at (Or.inr (by decide))])
              have f124 := zf hS_s3 ha (k := 22) rfl
              have g125 : s22 a 23 = s3 a 23 := (by rw [e_s22, zU_at (Or.inr (by decide))])
              have f126 := zf hS_s3 ha (k := 23) rfl
              have g127 : s22 a 24 = s3 a 24 := (by rw [e_s22, zU_at (Or.inr (by decide))])
              have f128 := zf hS_s3 ha (k := 24) rfl
              have g129 : s22 a 38 = s3 a 38 := (by rw [e_s22, zU_at (Or.inr (by decide))])
              have f130 := zf hS_s3 ha (k := 38) rfl
              have g131 : s22 a 51 = s3 a 51 := (by rw [e_s22, zU_at (Or.inr (by decide))])
              have f132 := zf hS_s3 ha (k := 51) rfl
              have g133 : s22 a 52 = s3 a 52 := (by rw [e_s22, zU_at (Or.inr (by decide))])
              have f134 := zf hS_s3 ha (k := 52) rfl
              exact j_sub [1, 2, 3, 4, 0] [(0, .ref a), (1, .int (zI x1)), (2, .int (zI x2)), (4, .int (zI ((s1 a 4)))), (5, .int (zI (10 * v21 + (s0 (gP G a 9) ((s3 a 4)).toNat) - 48)))] rfl (ih_c41_2 (10 * v21 + (s0 (gP G a 9) ((s3 a 4)).toNat) - 48) s22 (by omega) (by omega) hS_s22 (zFr_u (zFr_t zFr_rf hF_s3 (by decide)) e_s22 ha (by decide)) (by omega) (by omega) (by omega) (by omega) (by omega) (by omega) (by omega) (by omega) (by omega) (by omega) (by omega) (by omega) (by omega))
            · skip
              refine j_sipush hx dX12_readNumber_75 rfl ?_
              refine j_goto hx 99 dX12_readNumber_78 rfl ?_
              refine j_istore hx [(5, .int (zI 10000)), (0, .ref a), (1, .int (zI x1)), (2, .int (zI x2)), (4, .int (zI ((s1 a 4))))] dX12_readNumber_99 (by decide) rfl ?_
              refine j_aload_n hx 1 dX12_readNumber_101 rfl ?_
              refine j_dup hx dX12_readNumber_102 rfl ?_
              refine g13_4 hx hG ha kf_RX12_143 rfl dX12_readNumber_103 ?_
              refine j_iconst hx dX12_readNumber_106 ?_
              refine j_iadd hx (r := (s3 a 4) + 1) dX12_readNumber_107 (by omega) ?_
              refine p13_4 hx hG ha kf_RX12_143 dX12_readNumber_108 ?_
              obtain ⟨s23, e_s23⟩ : ∃ z, z = zU s3 a 4 ((s3 a 4) + 1) := ⟨_, rfl⟩
              rw [← e_s23]
              have hS_s23 : zSK G s23 := by rw [e_s23]; exact zSK_F hS_s3 ha rfl rfl rfl (by omega)
              refine j_goto hx 41 dX12_readNumber_111 rfl ?_
              have g135 : s23 a 4 = (s3 a 4) + 1 := (by rw [e_s23, zU_eq])
              have g136 : s23 a 0 = s3 a 0 := (by rw [e_s23, zU_at (Or.inr (by decide))])
              have f137 := zf hS_s3 ha (k := 0) rfl
              have g138 : s23 a 3 = s3 a 3 := (by rw [e_s23, zU_at (Or.inr (by decide))])
              have g139 : s23 a 5 = s3 a 5 := (by rw [e_s23, zU_at (Or.inr (by decide))])
              have f140 := zf hS_s3 ha (k := 5) rfl
              have g141 : s23 a 7 = s3 a 7 := (by rw [e_s23, zU_at (Or.inr (by decide))])
              have f142 := zf hS_s3 ha (k := 7) rfl
              have g143 : s23 a 21 = s3 a 21 := (by rw [e_s23, zU_at (Or.inr (by decide))])
              have f144 := zf hS_s3 ha (k := 21) rfl
              have g145 : s23 a 22 = s3 a 22 := (by rw [e_s23, zU_at (Or.inr (by decide))])
              have f146 := zf hS_s3 ha (k := 22) rfl
              have g147 : s23 a 23 = s3 a 23 := (by rw [e_s23, zU_at (Or.inr (by decide))])
              have f148 := zf hS_s3 ha (k := 23) rfl
              have g149 : s23 a 24 = s3 a 24 := (by rw [e_s23, zU_at (Or.inr (by decide))])
              have f150 := zf hS_s3 ha (k := 24) rfl
              have g151 : s23 a 38 = s3 a 38 := (by rw [e_s23, zU_at (Or.inr (by decide))])
              have f152 := zf hS_s3 ha (k := 38) rfl
              have g153 : s23 a 51 = s3 a 51 := (by rw [e_s23, zU_at (Or.inr (by decide))])
              have f154 := zf hS_s3 ha (k := 51) rfl
              have g155 : s23 a 52 = s3 a 52 := (by rw [e_s23, zU_at (Or.inr (by decide))])
              have f156 := zf hS_s3 ha (k := 52) rfl
              exact j_sub [1, 2, 3, 4, 0] [(0, .ref a), (1, .int (zI x1)), (2, .int (zI x2)), (4, .int (zI ((s1 a 4)))), (5, .int (zI 10000))] rfl (ih_c41_2 10000 s23 (by omega) (by omega) hS_s23 (zFr_u (zFr_t zFr_rf hF_s3 (by decide)) e_s23 ha (by decide)) (by omega) (by omega) (by omega) (by omega) (by omega) (by omega) (by omega) (by omega) (by omega) (by omega) (by omega) (by omega) (by omega))
    refine j_if_ne hx 41 dX12_readNumber_27 rfl (by omega) (fun h157 => ?_) (fun h157 => ?_)
    · skip
      exact j_sub [3, 4, 5, 1, 0] [(0, .ref a), (1, .int (zI x1)), (2, .int (zI x2)), (4, .int (zI ((s1 a 4)))), (5, .int (zI 0))] rfl (c41_2 (2147483648 * 4) 0 s1 (by omega) (by omega) hS_s1 zFr_rf (by omega) (by omega) (by omega) (by omega) (by omega) (by omega) (by omega) (by omega) (by omega) (by omega) (by omega) (by omega) (by omega))
    · skip
      refine j_aload_n hx 3 dX12_readNumber_30 rfl ?_
      refine j_iconst hx dX12_readNumber_31 ?_
      refine j_aload_n hx 3 dX12_readNumber_32 rfl ?_
      refine g13_4 hx hG ha kf_RX12_143 rfl dX12_readNumber_33 ?_
      refine j_callV hx hG (c_X12_wrong hst a 1 ((s1 a 4))) lk_RX12_173 ha (by decide) rfl rfl rfl rfl [.int (zI 1), .int (zI ((s1 a 4)))] ⟨rfl, hG, hS_s1, ha, (by omega), (by omega)⟩ rfl rfl ⟨by decide, by decide⟩ ⟨by decide, by decide⟩ (k2 := 0) (n2 := 0) rfl rfl (Nat.le_of_ble_eq_true rfl) dX12_readNumber_36 (kVM (fun s24 hS_s24 hF_s24 q159 => ?_))
      refine j_iconst hx dX12_readNumber_39 ?_
      have f160 := zf hS_s24 ha (k := 4) rfl
      have f161 := zf hS_s24 ha (k := 5) rfl
      have f162 := zf hS_s24 ha (k := 0) rfl
      have f163 := zf hS_s24 ha (k := 3) rfl
      have f164 := zf hS_s24 ha (k := 7) rfl
      have f165 := zf hS_s24 ha (k := 21) rfl
      have f166 := zf hS_s24 ha (k := 22) rfl
      have f167 := zf hS_s24 ha (k := 23) rfl
      have f168 := zf hS_s24 ha (k := 24) rfl
      have f169 := zf hS_s24 ha (k := 38) rfl
      have f170 := zf hS_s24 ha (k := 51) rfl
      have f171 := zf hS_s24 ha (k := 52) rfl
      exact j_iret hx hq rfl (by decide) (by decide) dX12_readNumber_40 ⟨0, rfl, rfl, hS_s24, (zFr_t (zFr_t zFr_rf hF_s1 (by decide)) hF_s24 (by decide)), ⟨(by omega), by omega, by omega, by omega, by omega, by omega, by omega, by omega, by omega, by omega, by omega, by omega, by omega, by omega, by omega⟩⟩
  · skip
    refine j_iconst hx dX12_readNumber_7 ?_
    have f172 := zf hS0 ha (k := 4) rfl
    have f173 := zf hS0 ha (k := 5) rfl
    have f174 := zf hS0 ha (k := 3) rfl
    have f175 := zf hS0 ha (k := 0) rfl
    have f176 := zf hS0 ha (k := 7) rfl
    have f177 := zf hS0 ha (k := 21) rfl
    have f178 := zf hS0 ha (k := 22) rfl
    have f179 := zf hS0 ha (k := 23) rfl
    have f180 := zf hS0 ha (k := 24) rfl
    have f181 := zf hS0 ha (k := 38) rfl
    have f182 := zf hS0 ha (k := 51) rfl
    have f183 := zf hS0 ha (k := 52) rfl
    exact j_iret hx hq rfl (by decide) (by decide) dX12_readNumber_8 ⟨0, rfl, rfl, hS0, zFr_rf, ⟨(by omega), by omega, by omega, by omega, by omega, by omega, by omega, by omega, by omega, by omega, by omega, by omega, by omega, by omega, by omega⟩⟩

set_option maxHeartbeats 1200000 in
set_option maxRecDepth 20000 in
theorem c_X12_isKind {E : zE} {l : Launch} (hst : l.stackTraces = false) (x0 : Int) : Con E l yX12_isKind cX12_isKind 1 (some .boolean) { frames := 0, cells := 0, slots := 0, locals := 0 } (fun G s vs => vs = [.int (zI x0)] ∧ zGK G ∧ zSK G s ∧ ((-2147483648) ≤ x0 ∧ x0 ≤ 2147483647)) (fun G s _ => pI (fun r G2 s2 => G2 = G ∧ s2 = s ∧ (0 ≤ r ∧ r ≤ 1) ∧ ((r = 1 → 97 ≤ x0 ∧ x0 ≤ 111)))) := by
  refine Con.mk hst (by decide) (fun G s vs h => by rw [h.1]; exact Nat.le_of_ble_eq_true rfl) ?_
  rintro X G s0 vs ⟨rfl, hG, hS0, hx0⟩ rfl hx hq
  show JJ X E 1 G s0 0 0 [(0, .int (zI x0))] 0 []
  refine j_iload_n hx 0 dX12_isKind_0 rfl ?_
  refine j_bipush hx dX12_isKind_1 rfl ?_
  refine j_icmp_lt hx 16 dX12_isKind_3 rfl (by omega) ⟨by decide, by decide⟩ (fun h1 => ?_) (fun h1 => ?_)
  · skip
    refine j_iconst hx dX12_isKind_16 ?_
    exact j_zret hx hq rfl (by decide) (by decide) dX12_isKind_17 (by omega) ⟨0, rfl, rfl, rfl, ⟨(by omega), by omega⟩⟩
  · skip
    refine j_iload_n hx 0 dX12_isKind_6 rfl ?_
    refine j_bipush hx dX12_isKind_7 rfl ?_
    refine j_icmp_gt hx 16 dX12_isKind_9 rfl (by omega) ⟨by decide, by decide⟩ (fun h2 => ?_) (fun h2 => ?_)
    · skip
      refine j_iconst hx dX12_isKind_16 ?_
      exact j_zret hx hq rfl (by decide) (by decide) dX12_isKind_17 (by omega) ⟨0, rfl, rfl, rfl, ⟨(by omega), by omega⟩⟩
    · skip
      refine j_iconst hx dX12_isKind_12 ?_
      refine j_goto hx 17 dX12_isKind_13 rfl ?_
      exact j_zret hx hq rfl (by decide) (by decide) dX12_isKind_17 (by omega) ⟨1, rfl, rfl, rfl, ⟨(by omega), by omega⟩⟩
