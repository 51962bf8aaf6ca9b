set_option maxHeartbeats 4000000 in
set_option maxRecDepth 20000 in
theorem c_X12_sets {E : zE} {l : Launch} (hst : l.stackTraces = false) (a : Nat) : Con E l yX12_sets cX12_sets 4 none { frames := 0, cells := 0, slots := 0, locals := 0 } (fun G s vs => vs = [.ref a] ∧ zGK G ∧ zSK G s ∧ (gT G a = 13) ∧ (s (gP G a 13) 0 + s (gP G a 13) 1 + s (gP G a 13) 2 ≤ 60) ∧ (zQn (s (gP G a 10)) (s a 21))) (fun G s _ => pV (fun G2 s2 => G2 = G ∧ zSK G s2 ∧ zFr [13, 80, 81, 82, 83, 84, 85, 87, 91, 94] G s s2 ∧ zc (s2 (gP G a 27)) ≤ 60 ∧ s2 (gP G a 27) 488 = 0 ∧ zc (s2 (gP G a 28)) ≤ 60 ∧ s2 (gP G a 28) 488 = 0 ∧ zQn (s2 (gP G a 17)) (s2 a 24) ∧ zRva (s2 (gP G a 34)) (s2 (gP G a 35)) (s2 (gP G a 37)) ∧ s2 a 0 = s a 0 ∧ s2 a 3 = s a 3 ∧ s2 a 4 = s a 4 ∧ s2 a 5 = s a 5 ∧ s2 a 7 = s a 7 ∧ s2 a 21 = s a 21 ∧ s2 a 22 = s a 22 ∧ s2 a 23 = s a 23 ∧ s2 a 38 = s a 38 ∧ s2 a 51 = s a 51 ∧ s2 a 52 = s a 52)) := by
  refine Con.mk hst (by decide) (fun G s vs h => by rw [h.1]; exact Nat.le_of_ble_eq_true rfl) ?_
  rintro X G s0 vs ⟨rfl, hG, hS0, ha, e0, e1⟩ rfl hx hq
  show JJ X E 4 G s0 0 0 [(0, .ref a)] 0 []
  refine j_aload_n hx 0 dX12_sets_0 rfl ?_
  refine j_aload_n hx 0 dX12_sets_1 rfl ?_
  have f1 := zf hS0 ha (k := 21) rfl
  refine g13_21 hx hG ha kf_RX12_180 rfl dX12_sets_2 ?_
  refine p13_24 hx hG ha kf_RX12_189 dX12_sets_5 ?_
  obtain ⟨s1, e_s1⟩ : ∃ z, z = zU s0 a 24 ((s0 a 21)) := ⟨_, rfl⟩
  rw [← e_s1]
  have hS_s1 : zSK G s1 := by rw [e_s1]; exact zSK_F hS0 ha rfl rfl rfl (by omega)
  refine j_aload_n hx 0 dX12_sets_8 rfl ?_
  refine j_aload_n hx 0 dX12_sets_9 rfl ?_
  have f2 := zf hS0 ha (k := 22) rfl
  refine g13_22 hx hG ha kf_RX12_183 (v := (s0 a 22)) (by rw [e_s1, zU_at (Or.inr (by decide))]) dX12_sets_10 ?_
  refine p13_25 hx hG ha kf_RX12_192 dX12_sets_13 ?_
  obtain ⟨s2, e_s2⟩ : ∃ z, z = zU s1 a 25 ((s0 a 22)) := ⟨_, rfl⟩
  rw [← e_s2]
  have hS_s2 : zSK G s2 := by rw [e_s2]; exact zSK_F hS_s1 ha rfl rfl rfl (by omega)
  refine j_aload_n hx 0 dX12_sets_16 rfl ?_
  refine j_aload_n hx 0 dX12_sets_17 rfl ?_
  have f3 := zf hS0 ha (k := 23) rfl
  refine g13_23 hx hG ha kf_RX12_186 (v := (s0 a 23)) (by rw [e_s2, zU_at (Or.inr (by decide)), e_s1, zU_at (Or.inr (by decide))]) dX12_sets_18 ?_
  refine p13_26 hx hG ha kf_RX12_195 dX12_sets_21 ?_
  obtain ⟨s3, e_s3⟩ : ∃ z, z = zU s2 a 26 ((s0 a 23)) := ⟨_, rfl⟩
  rw [← e_s3]
  have hS_s3 : zSK G s3 := by rw [e_s3]; exact zSK_F hS_s2 ha rfl rfl rfl (by omega)
  refine j_iconst hx dX12_sets_24 ?_
  refine j_istore_n hx [(1, .int (zI 0)), (0, .ref a)] dX12_sets_25 (by decide) rfl ?_
  have c26_4 : ∀ (m_c26_4 : Nat) (v4 : Int) (s5 : zS), 2147483648 - v4 < m_c26_4 → (0 ≤ v4 ∧ v4 ≤ 12) → (zSK G s5) → (zFr [80] G s3 s5) → (zEq (v4).toNat (s5 (gP G a 17)) (s0 (gP G a 10))) → JJ X E 4 G s5 0 0 [(0, .ref a), (1, .int (zI v4))] 26 [] := by
    intro m_c26_4
    induction m_c26_4 with
    | zero => intro v4 s5 hm_c26_4 fA6 hS_s5 hF_s5 hE1; exfalso; omega
    | succ m_c26_4 ih_c26_4 => 
      intro v4 s5 hm_c26_4 fA6 hS_s5 hF_s5 hE1
      refine j_iload_n hx 1 dX12_sets_26 rfl ?_
      refine j_bipush hx dX12_sets_27 rfl ?_
      refine j_icmp_ge hx 50 dX12_sets_29 rfl (by omega) ⟨by decide, by decide⟩ (fun h5 => ?_) (fun h5 => ?_)
      · skip
        have hP6 : zQn (s5 (gP G a 17)) (s5 a 24) := zQn_eq (by rw [(zFr_g hF_s5 (zr (k := 10) (t2 := 73) hG ha rfl) (by decide)), e_s3, zU_ne (zne (zr (k := 10) (t2 := 73) hG ha rfl) ha (by decide)), e_s2, zU_ne (zne (zr (k := 10) (t2 := 73) hG ha rfl) ha (by decide)), e_s1, zU_ne (zne (zr (k := 10) (t2 := 73) hG ha rfl) ha (by decide))]; exact (zQn_nn e1 (by omega))) hE1 (by omega)
        refine j_iconst hx dX12_sets_50 ?_
        refine j_istore_n hx [(1, .int (zI 0)), (0, .ref a)] dX12_sets_51 (by decide) rfl ?_
        have c52_10 : ∀ (m_c52_10 : Nat) (v7 : Int) (s11 : zS), 2147483648 - v7 < m_c52_10 → (0 ≤ v7 ∧ v7 ≤ 12) → (zSK G s11) → (zFr [83] G s5 s11) → JJ X E 4 G s11 0 0 [(0, .ref a), (1, .int (zI v7))] 52 [] := by
          intro m_c52_10
          induction m_c52_10 with
          | zero => intro v7 s11 hm_c52_10 fA12 hS_s11 hF_s11; exfalso; omega
          | succ m_c52_10 ih_c52_10 => 
            intro v7 s11 hm_c52_10 fA12 hS_s11 hF_s11
            refine j_iload_n hx 1 dX12_sets_52 rfl ?_
            refine j_bipush hx dX12_sets_53 rfl ?_
            refine j_icmp_ge hx 76 dX12_sets_55 rfl (by omega) ⟨by decide, by decide⟩ (fun h8 => ?_) (fun h8 => ?_)
            · skip
              refine j_iconst hx dX12_sets_76 ?_
              refine j_istore_n hx [(1, .int (zI 0)), (0, .ref a)] dX12_sets_77 (by decide) rfl ?_
              have c78_15 : ∀ (m_c78_15 : Nat) (v9 : Int) (s16 : zS), 2147483648 - v9 < m_c78_15 → (0 ≤ v9 ∧ v9 ≤ 515) → (zSK G s16) → (zFr [84] G s11 s16) → (zAll s16 (gP G a 27) (v9).toNat 0) → JJ X E 4 G s16 0 0 [(0, .ref a), (1, .int (zI v9))] 78 [] := by
                intro m_c78_15
                induction m_c78_15 with
                | zero => intro v9 s16 hm_c78_15 fA17 hS_s16 hF_s16 hB1; exfalso; omega
                | succ m_c78_15 ih_c78_15 => 
                  intro v9 s16 hm_c78_15 fA17 hS_s16 hF_s16 hB1
                  refine j_iload_n hx 1 dX12_sets_78 rfl ?_
                  refine j_sipush hx dX12_sets_79 rfl ?_
                  refine j_icmp_ge hx 98 dX12_sets_82 rfl (by omega) ⟨by decide, by decide⟩ (fun h10 => ?_) (fun h10 => ?_)
                  · skip
                    have z11 := zAll_zc hB1 (by omega)
                    refine j_iconst hx dX12_sets_98 ?_
                    refine j_istore_n hx [(1, .int (zI 0)), (0, .ref a)] dX12_sets_99 (by decide) rfl ?_
                    refine j_iconst hx dX12_sets_100 ?_
                    refine j_istore_n hx [(2, .int (zI 0)), (1, .int (zI 0)), (0, .ref a)] dX12_sets_101 (by decide) rfl ?_
                    refine j_iload_n hx 0 dX12_sets_102 rfl ?_
                    refine j_iconst hx dX12_sets_103 ?_
                    refine j_icmp_ge hx 250 dX12_sets_104 rfl ⟨by decide, by decide⟩ ⟨by decide, by decide⟩ (fun h12 => absurd h12 (by omega)) (fun h12 => ?_)
                    refine j_aload_n hx 2 dX12_sets_107 rfl ?_
                    refine g13_18 hx hG ha kf_RX12_47 dX12_sets_108 ?_
                    refine j_iload_n hx 0 dX12_sets_111 rfl ?_
                    refine j_aload_n hx 2 dX12_sets_112 rfl ?_
                    refine g13_11 hx hG ha kf_RX12_26 dX12_sets_113 ?_
                    refine j_iload_n hx 0 dX12_sets_116 rfl ?_
                    have f13 := zaI (j := 0) hS0 (zr (k := 11) (t2 := 74) hG ha rfl) rfl (zlen hG (zr (k := 11) (t2 := 74) hG ha rfl) (n := 3) rfl rfl) (show 0 ≤ 0 by omega) (by omega) rfl
                    refine j_iald hx hG (zr (k := 11) (t2 := 74) hG ha rfl) (by decide) rfl (zlen hG (zr (k := 11) (t2 := 74) hG ha rfl) (n := 3) rfl rfl) (by omega) (by omega) (j := 0) rfl (v := (s0 (gP G a 11) 0)) (by rw [(zFr_g hF_s16 (zr (k := 11) (t2 := 74) hG ha rfl) (by decide)), (zFr_g hF_s11 (zr (k := 11) (t2 := 74) hG ha rfl) (by decide)), (zFr_g hF_s5 (zr (k := 11) (t2 := 74) hG ha rfl) (by decide)), e_s3, zU_at (Or.inl (zne ha (zr (k := 11) (t2 := 74) hG ha rfl) (by decide))), e_s2, zU_at (Or.inl (zne ha (zr (k := 11) (t2 := 74) hG ha rfl) (by decide))), e_s1, zU_at (Or.inl (zne ha (zr (k := 11) (t2 := 74) hG ha rfl) (by decide)))]) dX12_sets_117 ?_
                    refine j_iast hx hG (zr (k := 18) (t2 := 81) hG ha rfl) (by decide) rfl (zlen hG (zr (k := 18) (t2 := 81) hG ha rfl) (n := 3) rfl rfl) (by omega) (by omega) (j := 0) rfl dX12_sets_118 ?_
                    obtain ⟨s21, e_s21⟩ : ∃ z, z = zU s16 (gP G a 18) 0 ((s0 (gP G a 11) 0)) := ⟨_, rfl⟩
                    rw [← e_s21]
                    have hS_s21 : zSK G s21 := by rw [e_s21]; exact zSK_A hS_s16 (zr (k := 18) (t2 := 81) hG ha rfl) rfl rfl rfl (by omega)
                    refine j_aload_n hx 2 dX12_sets_119 rfl ?_
                    refine g13_27 hx hG ha kf_RX12_56 dX12_sets_120 ?_
                    refine j_sipush hx dX12_sets_123 rfl ?_
                    refine j_iload_n hx 0 dX12_sets_126 rfl ?_
                    refine j_iadd hx (r := 491) dX12_sets_127 (by omega) ?_
                    refine j_aload_n hx 2 dX12_sets_128 rfl ?_
                    refine g13_15 hx hG ha kf_RX12_38 dX12_sets_129 ?_
                    refine j_iload_n hx 0 dX12_sets_132 rfl ?_
                    have f14 := zaI (j := 0) hS0 (zr (k := 15) (t2 := 78) hG ha rfl) rfl (zlen hG (zr (k := 15) (t2 := 78) hG ha rfl) (n := 3) rfl rfl) (show 0 ≤ 0 by omega) (by omega) rfl
                    refine j_iald hx hG (zr (k := 15) (t2 := 78) hG ha rfl) (by decide) rfl (zlen hG (zr (k := 15) (t2 := 78) hG ha rfl) (n := 3) rfl rfl) (by omega) (by omega) (j := 0) rfl (v := (s0 (gP G a 15) 0)) (by rw [e_s21, zU_at (Or.inl (zne (zr (k := 18) (t2 := 81) hG ha rfl) (zr (k := 15) (t2 := 78) hG ha rfl) (by decide))), (zFr_g hF_s16 (zr (k := 15) (t2 := 78) hG ha rfl) (by decide)), (zFr_g hF_s11 (zr (k := 15) (t2 := 78) hG ha rfl) (by decide)), (zFr_g hF_s5 (zr (k := 15) (t2 := 78) hG ha rfl) (by decide)), e_s3, zU_at (Or.inl (zne ha (zr (k := 15) (t2 := 78) hG ha rfl) (by decide))), e_s2, zU_at (Or.inl (zne ha (zr (k := 15) (t2 := 78) hG ha rfl) (by decide))), e_s1, zU_at (Or.inl (zne ha (zr (k := 15) (t2 := 78) hG ha rfl) (by decide)))]) dX12_sets_133 ?_
                    refine j_iast hx hG (zr (k := 27) (t2 := 84) hG ha rfl) (by decide) rfl (zlen hG (zr (k := 27) (t2 := 84) hG ha rfl) (n := 515) rfl rfl) (by omega) (by omega) (j := 491) rfl dX12_sets_134 ?_
                    obtain ⟨s22, e_s22⟩ : ∃ z, z = zU s21 (gP G a 27) 491 ((s0 (gP G a 15) 0)) := ⟨_, rfl⟩
                    rw [← e_s22]
                    have hS_s22 : zSK G s22 := by rw [e_s22]; exact zSK_a hS_s21 (zr (k := 27) (t2 := 84) hG ha rfl) rfl rfl (congrArg some (axS_7 491 (by omega))) (by omega)
                    have g16 : zc (s21 (gP G a 27)) = zc (s16 (gP G a 27)) := by rw [e_s21, zU_ne (zne (zr (k := 27) (t2 := 84) hG ha rfl) (zr (k := 18) (t2 := 81) hG ha rfl) (by decide))]
                    have z15 : zc (s22 (gP G a 27)) = zc (s21 (gP G a 27)) := by rw [e_s22]; exact zc_o (by omega)
                    refine j_aload_n hx 2 dX12_sets_135 rfl ?_
                    refine g13_27 hx hG ha kf_RX12_56 dX12_sets_136 ?_
                    refine j_sipush hx dX12_sets_139 rfl ?_
                    refine j_iload_n hx 0 dX12_sets_142 rfl ?_
                    refine j_iadd hx (r := 480) dX12_sets_143 (by omega) ?_
                    refine j_iload_n hx 0 dX12_sets_144 rfl ?_
                    refine j_aload_n hx 2 dX12_sets_145 rfl ?_
                    refine g13_21 hx hG ha kf_RX12_180 (v := (s0 a 21)) (by rw [e_s22, zU_at (Or.inl (zne (zr (k := 27) (t2 := 84) hG ha rfl) ha (by decide))), e_s21, zU_at (Or.inl (zne (zr (k := 18) (t2 := 81) hG ha rfl) ha (by decide))), (zFr_g hF_s16 ha (by decide)), (zFr_g hF_s11 ha (by decide)), (zFr_g hF_s5 ha (by decide)), e_s3, zU_at (Or.inr (by decide)), e_s2, zU_at (Or.inr (by decide)), e_s1, zU_at (Or.inr (by decide))]) dX12_sets_146 ?_
                    refine j_icmp_ge hx 161 dX12_sets_149 rfl ⟨by decide, by decide⟩ (by omega) (fun h17 => ?_) (fun h17 => ?_)
                    · skip
                      refine j_iconst hx dX12_sets_161 ?_
                      refine j_iast hx hG (zr (k := 27) (t2 := 84) hG ha rfl) (by decide) rfl (zlen hG (zr (k := 27) (t2 := 84) hG ha rfl) (n := 515) rfl rfl) (by omega) (by omega) (j := 480) rfl dX12_sets_162 ?_
                      obtain ⟨s23, e_s23⟩ : ∃ z, z = zU s22 (gP G a 27) 480 0 := ⟨_, rfl⟩
                      rw [← e_s23]
                      have hS_s23 : zSK G s23 := by rw [e_s23]; exact zSK_a hS_s22 (zr (k := 27) (t2 := 84) hG ha rfl) rfl rfl (congrArg some (axS_2 480 (by omega))) (by omega)
                      have g19 : s22 (gP G a 27) 480 = s16 (gP G a 27) 480 := (by rw [e_s22, zU_at (Or.inr (by decide)), e_s21, zU_at (Or.inl (zne (zr (k := 18) (t2 := 81) hG ha rfl) (zr (k := 27) (t2 := 84) hG ha rfl) (by decide)))])
                      have g20 : s23 (gP G a 27) 480 = 0 := (by rw [e_s23, zU_eq])
                      have z18 : zc (s23 (gP G a 27)) = zc (s22 (gP G a 27)) - s22 (gP G a 27) 480 + s23 (gP G a 27) 480 := by rw [e_s23, zU_eq]; exact zc_w (by omega) (by omega)
                      refine j_iconst hx dX12_sets_163 ?_
                      refine j_istore_n hx [(3, .int (zI 0)), (2, .int (zI 0)), (1, .int (zI 0)), (0, .ref a)] dX12_sets_164 (by decide) rfl ?_
                      have g23 : s23 (gP G a 27) 481 = s16 (gP G a 27) 481 := (by rw [e_s23, zU_at (Or.inr (by decide)), e_s22, zU_at (Or.inr (by decide)), e_s21, zU_at (Or.inl (zne (zr (k := 18) (t2 := 81) hG ha rfl) (zr (k := 27) (t2 := 84) hG ha rfl) (by decide)))])
                      have g24 : s23 (gP G a 27) 482 = s16 (gP G a 27) 482 := (by rw [e_s23, zU_at (Or.inr (by decide)), e_s22, zU_at (Or.inr (by decide)), e_s21, zU_at (Or.inl (zne (zr (k := 18) (t2 := 81) hG ha rfl) (zr (k := 27) (t2 := 84) hG ha rfl) (by decide)))])
                      have g25 : s23 (gP G a 27) 483 = s16 (gP G a 27) 483 := (by rw [e_s23, zU_at (Or.inr (by decide)), e_s22, zU_at (Or.inr (by decide)), e_s21, zU_at (Or.inl (zne (zr (k := 18) (t2 := 81) hG ha rfl) (zr (k := 27) (t2 := 84) hG ha rfl) (by decide)))])
                      have g26 : s23 (gP G a 27) 484 = s16 (gP G a 27) 484 := (by rw [e_s23, zU_at (Or.inr (by decide)), e_s22, zU_at (Or.inr (by decide)), e_s21, zU_at (Or.inl (zne (zr (k := 18) (t2 := 81) hG ha rfl) (zr (k := 27) (t2 := 84) hG ha rfl) (by decide)))])
                      have g27 : s23 (gP G a 27) 485 = s16 (gP G a 27) 485 := (by rw [e_s23, zU_at (Or.inr (by decide)), e_s22, zU_at (Or.inr (by decide)), e_s21, zU_at (Or.inl (zne (zr (k := 18) (t2 := 81) hG ha rfl) (zr (k := 27) (t2 := 84) hG ha rfl) (by decide)))])
                      have g28 : s23 (gP G a 27) 486 = s16 (gP G a 27) 486 := (by rw [e_s23, zU_at (Or.inr (by decide)), e_s22, zU_at (Or.inr (by decide)), e_s21, zU_at (Or.inl (zne (zr (k := 18) (t2 := 81) hG ha rfl) (zr (k := 27) (t2 := 84) hG ha rfl) (by decide)))])
                      have g29 : s23 (gP G a 27) 488 = s16 (gP G a 27) 488 := (by rw [e_s23, zU_at (Or.inr (by decide)), e_s22, zU_at (Or.inr (by decide)), e_s21, zU_at (Or.inl (zne (zr (k := 18) (t2 := 81) hG ha rfl) (zr (k := 27) (t2 := 84) hG ha rfl) (by decide)))])
                      have c165_24 : ∀ (m_c165_24 : Nat) (v21 : Int) (v22 : Int) (s25 : zS), 2147483648 - v22 < m_c165_24 → (0 ≤ v21 ∧ v21 ≤ 60) → (0 ≤ v22 ∧ v22 ≤ 60) → (zSK G s25) → (zFr [82, 84] G s23 s25) → (zc (s25 (gP G a 27)) = zc (s23 (gP G a 27))) → (v21 = 0 + v22) → (s25 (gP G a 27) 480 = s23 (gP G a 27) 480) → (s25 (gP G a 27) 481 = s23 (gP G a 27) 481) → (s25 (gP G a 27) 482 = s23 (gP G a 27) 482) → (s25 (gP G a 27) 483 = s23 (gP G a 27) 483) → (s25 (gP G a 27) 484 = s23 (gP G a 27) 484) → (s25 (gP G a 27) 485 = s23 (gP G a 27) 485) → (s25 (gP G a 27) 486 = s23 (gP G a 27) 486) → (s25 (gP G a 27) 488 = s23 (gP G a 27) 488) → JJ X E 4 G s25 0 0 [(0, .ref a), (1, .int (zI v21)), (2, .int (zI 0)), (3, .int (zI v22))] 165 [] := by
                        intro m_c165_24
                        induction m_c165_24 with
                        | zero => intro v21 v22 s25 hm_c165_24 fA26 fA27 hS_s25 hF_s25 fA30 fA31 fA32 fA33 fA34 fA35 fA36 fA37 fA38 fA39; exfalso; omega
                        | succ m_c165_24 ih_c165_24 => 
                          intro v21 v22 s25 hm_c165_24 fA26 fA27 hS_s25 hF_s25 fA30 fA31 fA32 fA33 fA34 fA35 fA36 fA37 fA38 fA39
                          refine j_iload_n hx 3 dX12_sets_165 rfl ?_
                          refine j_aload_n hx 0 dX12_sets_166 rfl ?_
                          refine g13_27 hx hG ha kf_RX12_56 dX12_sets_167 ?_
                          refine j_sipush hx dX12_sets_170 rfl ?_
                          refine j_iload_n hx 2 dX12_sets_173 rfl ?_
                          refine j_iadd hx (r := 480) dX12_sets_174 (by omega) ?_
                          have f30 := zaQ (j := 480) hS_s25 (zr (k := 27) (t2 := 84) hG ha rfl) (congrArg some (axS_2 480 (by omega))) (zlen hG (zr (k := 27) (t2 := 84) hG ha rfl) (n := 515) rfl rfl) (show 0 ≤ 480 by omega) (by omega) rfl
                          have c31 := zc_1 (j := 480) hS_s25 (zr (k := 27) (t2 := 84) hG ha rfl) (zn hG (zr (k := 27) (t2 := 84) hG ha rfl) rfl) (by omega) (by omega)
                          refine j_iald hx hG (zr (k := 27) (t2 := 84) hG ha rfl) (by decide) rfl (zlen hG (zr (k := 27) (t2 := 84) hG ha rfl) (n := 515) rfl rfl) (by omega) (by omega) (j := 480) rfl rfl dX12_sets_175 ?_
                          refine j_icmp_ge hx 244 dX12_sets_176 rfl (by omega) (by omega) (fun h32 => ?_) (fun h32 => ?_)
                          · skip
                            refine j_iinc hx 2 [(2, .int (zI 1)), (0, .ref a), (1, .int (zI v21)), (3, .int (zI v22))] dX12_sets_244 rfl (by omega) (by decide) rfl ?_
                            refine j_goto hx 102 dX12_sets_247 rfl ?_
                            refine j_iload_n hx 0 dX12_sets_102 rfl ?_
                            refine j_iconst hx dX12_sets_103 ?_
                            refine j_icmp_ge hx 250 dX12_sets_104 rfl ⟨by decide, by decide⟩ ⟨by decide, by decide⟩ (fun h33 => absurd h33 (by omega)) (fun h33 => ?_)
                            refine j_aload_n hx 1 dX12_sets_107 rfl ?_
                            refine g13_18 hx hG ha kf_RX12_47 dX12_sets_108 ?_
                            refine j_iload_n hx 0 dX12_sets_111 rfl ?_
                            refine j_aload_n hx 1 dX12_sets_112 rfl ?_
                            refine g13_11 hx hG ha kf_RX12_26 dX12_sets_113 ?_
                            refine j_iload_n hx 0 dX12_sets_116 rfl ?_
                            have f34 := zaI (j := 1) hS0 (zr (k := 11) (t2 := 74) hG ha rfl) rfl (zlen hG (zr (k := 11) (t2 := 74) hG ha rfl) (n := 3) rfl rfl) (show 0 ≤ 1 by omega) (by omega) rfl
                            refine j_iald hx hG (zr (k := 11) (t2 := 74) hG ha rfl) (by decide) rfl (zlen hG (zr (k := 11) (t2 := 74) hG ha rfl) (n := 3) rfl rfl) (by omega) (by omega) (j := 1) rfl (v := (s0 (gP G a 11) 1)) (by rw [(zFr_g hF_s25 (zr (k := 11) (t2 := 74) hG ha rfl) (by decide)), e_s23, zU_at (Or.inl (zne (zr (k := 27) (t2 := 84) hG ha rfl) (zr (k := 11) (t2 := 74) hG ha rfl) (by decide))), e_s22, zU_at (Or.inl (zne (zr (k := 27) (t2 := 84) hG ha rfl) (zr (k := 11) (t2 := 74) hG ha rfl) (by decide))), e_s21, zU_at (Or.inl (zne (zr (k := 18) (t2 := 81) hG ha rfl) (zr (k := 11) (t2 := 74) hG ha rfl) (by decide))), (zFr_g hF_s16 (zr (k := 11) (t2 := 74) hG ha rfl) (by decide)), (zFr_g hF_s11 (zr (k := 11) (t2 := 74) hG ha rfl) (by decide)), (zFr_g hF_s5 (zr (k := 11) (t2 := 74) hG ha rfl) (by decide)), e_s3, zU_at (Or.inl (zne ha (zr (k := 11) (t2 := 74) hG ha rfl) (by decide))), e_s2, zU_at (Or.inl (zne ha (zr (k := 11) (t2 := 74) hG ha rfl) (by decide))), e_s1, zU_at (Or.inl (zne ha (zr (k := 11) (t2 := 74) hG ha rfl) (by decide)))]) dX12_sets_117 ?_
                            refine j_iast hx hG (zr (k := 18) (t2 := 81) hG ha rfl) (by decide) rfl (zlen hG (zr (k := 18) (t2 := 81) hG ha rfl) (n := 3) rfl rfl) (by omega) (by omega) (j := 1) rfl dX12_sets_118 ?_
                            obtain ⟨s40, e_s40⟩ : ∃ z, z = zU s25 (gP G a 18) 1 ((s0 (gP G a 11) 1)) := ⟨_, rfl⟩
                            rw [← e_s40]
                            have hS_s40 : zSK G s40 := by rw [e_s40]; exact zSK_A hS_s25 (zr (k := 18) (t2 := 81) hG ha rfl) rfl rfl rfl (by omega)
                            refine j_aload_n hx 1 dX12_sets_119 rfl ?_
                            refine g13_27 hx hG ha kf_RX12_56 dX12_sets_120 ?_
                            refine j_sipush hx dX12_sets_123 rfl ?_
                            refine j_iload_n hx 0 dX12_sets_126 rfl ?_
                            refine j_iadd hx (r := 492) dX12_sets_127 (by omega) ?_
                            refine j_aload_n hx 1 dX12_sets_128 rfl ?_
                            refine g13_15 hx hG ha kf_RX12_38 dX12_sets_129 ?_
                            refine j_iload_n hx 0 dX12_sets_132 rfl ?_
                            have f35 := zaI (j := 1) hS0 (zr (k := 15) (t2 := 78) hG ha rfl) rfl (zlen hG (zr (k := 15) (t2 := 78) hG ha rfl) (n := 3) rfl rfl) (show 0 ≤ 1 by omega) (by omega) rfl
                            refine j_iald hx hG (zr (k := 15) (t2 := 78) hG ha rfl) (by decide) rfl (zlen hG (zr (k := 15) (t2 := 78) hG ha rfl) (n := 3) rfl rfl) (by omega) (by omega) (j := 1) rfl (v := (s0 (gP G a 15) 1)) (by rw [e_s40, zU_at (Or.inl (zne (zr (k := 18) (t2 := 81) hG ha rfl) (zr (k := 15) (t2 := 78) hG ha rfl) (by decide))), (zFr_g hF_s25 (zr (k := 15) (t2 := 78) hG ha rfl) (by decide)), e_s23, zU_at (Or.inl (zne (zr (k := 27) (t2 := 84) hG ha rfl) (zr (k := 15) (t2 := 78) hG ha rfl) (by decide))), e_s22, zU_at (Or.inl (zne (zr (k := 27) (t2 := 84) hG ha rfl) (zr (k := 15) (t2 := 78) hG ha rfl) (by decide))), e_s21, zU_at (Or.inl (zne (zr (k := 18) (t2 := 81) hG ha rfl) (zr (k := 15) (t2 := 78) hG ha rfl) (by decide))), (zFr_g hF_s16 (zr (k := 15) (t2 := 78) hG ha rfl) (by decide)), (zFr_g hF_s11 (zr (k := 15) (t2 := 78) hG ha rfl) (by decide)), (zFr_g hF_s5 (zr (k := 15) (t2 := 78) hG ha rfl) (by decide)), e_s3, zU_at (Or.inl (zne ha (zr (k := 15) (t2 := 78) hG ha rfl) (by decide))), e_s2, zU_at (Or.inl (zne ha (zr (k := 15) (t2 := 78) hG ha rfl) (by decide))), e_s1, zU_at (Or.inl (zne ha (zr (k := 15) (t2 := 78) hG ha rfl) (by decide)))]) dX12_sets_133 ?_
                            refine j_iast hx hG (zr (k := 27) (t2 := 84) hG ha rfl) (by decide) rfl (zlen hG (zr (k := 27) (t2 := 84) hG ha rfl) (n := 515) rfl rfl) (by omega) (by omega) (j := 492) rfl dX12_sets_134 ?_
                            obtain ⟨s41, e_s41⟩ : ∃ z, z = zU s40 (gP G a 27) 492 ((s0 (gP G a 15) 1)) := ⟨_, rfl⟩
                            rw [← e_s41]
                            have hS_s41 : zSK G s41 := by rw [e_s41]; exact zSK_a hS_s40 (zr (k := 27) (t2 := 84) hG ha rfl) rfl rfl (congrArg some (axS_7 492 (by omega))) (by omega)
                            have g37 : zc (s40 (gP G a 27)) = zc (s25 (gP G a 27)) := by rw [e_s40, zU_ne (zne (zr (k := 27) (t2 := 84) hG ha rfl) (zr (k := 18) (t2 := 81) hG ha rfl) (by decide))]
                            have z36 : zc (s41 (gP G a 27)) = zc (s40 (gP G a 27)) := by rw [e_s41]; exact zc_o (by omega)
                            refine j_aload_n hx 1 dX12_sets_135 rfl ?_
                            refine g13_27 hx hG ha kf_RX12_56 dX12_sets_136 ?_
                            refine j_sipush hx dX12_sets_139 rfl ?_
                            refine j_iload_n hx 0 dX12_sets_142 rfl ?_
                            refine j_iadd hx (r := 481) dX12_sets_143 (by omega) ?_
                            refine j_iload_n hx 0 dX12_sets_144 rfl ?_
                            refine j_aload_n hx 1 dX12_sets_145 rfl ?_
                            refine g13_21 hx hG ha kf_RX12_180 (v := (s0 a 21)) (by rw [e_s41, zU_at (Or.inl (zne (zr (k := 27) (t2 := 84) hG ha rfl) ha (by decide))), e_s40, zU_at (Or.inl (zne (zr (k := 18) (t2 := 81) hG ha rfl) ha (by decide))), (zFr_g hF_s25 ha (by decide)), e_s23, zU_at (Or.inl (zne (zr (k := 27) (t2 := 84) hG ha rfl) ha (by decide))), e_s22, zU_at (Or.inl (zne (zr (k := 27) (t2 := 84) hG ha rfl) ha (by decide))), e_s21, zU_at (Or.inl (zne (zr (k := 18) (t2 := 81) hG ha rfl) ha (by decide))), (zFr_g hF_s16 ha (by decide)), (zFr_g hF_s11 ha (by decide)), (zFr_g hF_s5 ha (by decide)), e_s3, zU_at (Or.inr (by decide)), e_s2, zU_at (Or.inr (by decide)), e_s1, zU_at (Or.inr (by decide))]) dX12_sets_146 ?_
                            refine j_icmp_ge hx 161 dX12_sets_149 rfl ⟨by decide, by decide⟩ (by omega) (fun h38 => ?_) (fun h38 => absurd h38 (by omega))
                            refine j_iconst hx dX12_sets_161 ?_
                            refine j_iast hx hG (zr (k := 27) (t2 := 84) hG ha rfl) (by decide) rfl (zlen hG (zr (k := 27) (t2 := 84) hG ha rfl) (n := 515) rfl rfl) (by omega) (by omega) (j := 481) rfl dX12_sets_162 ?_
                            obtain ⟨s42, e_s42⟩ : ∃ z, z = zU s41 (gP G a 27) 481 0 := ⟨_, rfl⟩
                            rw [← e_s42]
                            have hS_s42 : zSK G s42 := by rw [e_s42]; exact zSK_a hS_s41 (zr (k := 27) (t2 := 84) hG ha rfl) rfl rfl (congrArg some (axS_2 481 (by omega))) (by omega)
                            have g40 : s41 (gP G a 27) 481 = s25 (gP G a 27) 481 := (by rw [e_s41, zU_at (Or.inr (by decide)), e_s40, zU_at (Or.inl (zne (zr (k := 18) (t2 := 81) hG ha rfl) (zr (k := 27) (t2 := 84) hG ha rfl) (by decide)))])
                            have g41 : s42 (gP G a 27) 481 = 0 := (by rw [e_s42, zU_eq])
                            have z39 : zc (s42 (gP G a 27)) = zc (s41 (gP G a 27)) - s41 (gP G a 27) 481 + s42 (gP G a 27) 481 := by rw [e_s42, zU_eq]; exact zc_w (by omega) (by omega)
                            refine j_iconst hx dX12_sets_163 ?_
                            refine j_istore_n hx [(3, .int (zI 0)), (2, .int (zI 1)), (0, .ref a), (1, .int (zI v21))] dX12_sets_164 (by decide) rfl ?_
                            have g42 : s42 (gP G a 27) 480 = s25 (gP G a 27) 480 := (by rw [e_s42, zU_at (Or.inr (by decide)), e_s41, zU_at (Or.inr (by decide)), e_s40, zU_at (Or.inl (zne (zr (k := 18) (t2 := 81) hG ha rfl) (zr (k := 27) (t2 := 84) hG ha rfl) (by decide)))])
                            have g43 : s42 (gP G a 27) 482 = s25 (gP G a 27) 482 := (by rw [e_s42, zU_at (Or.inr (by decide)), e_s41, zU_at (Or.inr (by decide)), e_s40, zU_at (Or.inl (zne (zr (k := 18) (t2 := 81) hG ha rfl) (zr (k := 27) (t2 := 84) hG ha rfl) (by decide)))])
                            have g44 : s42 (gP G a 27) 483 = s25 (gP G a 27) 483 := (by rw [e_s42, zU_at (Or.inr (by decide)), e_s41, zU_at (Or.inr (by decide)), e_s40, zU_at (Or.inl (zne (zr (k := 18) (t2 := 81) hG ha rfl) (zr (k := 27) (t2 := 84) hG ha rfl) (by decide)))])
                            have g45 : s42 (gP G a 27) 484 = s25 (gP G a 27) 484 := (by rw [e_s42, zU_at (Or.inr (by decide)), e_s41, zU_at (Or.inr (by decide)), e_s40, zU_at (Or.inl (zne (zr (k := 18) (t2 := 81) hG ha rfl) (zr (k := 27) (t2 := 84) hG ha rfl) (by decide)))])
                            have g46 : s42 (gP G a 27) 485 = s25 (gP G a 27) 485 := (by rw [e_s42, zU_at (Or.inr (by decide)), e_s41, zU_at (Or.inr (by decide)), e_s40, zU_at (Or.inl (zne (zr (k := 18) (t2 := 81) hG ha rfl) (zr (k := 27) (t2 := 84) hG ha rfl) (by decide)))])
                            have g47 : s42 (gP G a 27) 486 = s25 (gP G a 27) 486 := (by rw [e_s42, zU_at (Or.inr (by decide)), e_s41, zU_at (Or.inr (by decide)), e_s40, zU_at (Or.inl (zne (zr (k := 18) (t2 := 81) hG ha rfl) (zr (k := 27) (t2 := 84) hG ha rfl) (by decide)))])
                            have g48 : s42 (gP G a 27) 488 = s25 (gP G a 27) 488 := (by rw [e_s42, zU_at (Or.inr (by decide)), e_s41, zU_at (Or.inr (by decide)), e_s40, zU_at (Or.inl (zne (zr (k := 18) (t2 := 81) hG ha rfl) (zr (k := 27) (t2 := 84) hG ha rfl) (by decide)))])
                            exact j_sub [2, 3, 1, 0] [(0, .ref a), (1, .int (zI v21)), (2, .int (zI 1)), (3, .int (zI 0))] rfl (ih_c165_24 v21 0 s42 (by omega) (by omega) (by omega) hS_s42 (zFr_u (zFr_u (zFr_u (zFr_t zFr_rf hF_s25 (by decide)) e_s40 (zr (k := 18) (t2 := 81) hG ha rfl) (by decide)) e_s41 (zr (k := 27) (t2 := 84) hG ha rfl) (by decide)) e_s42 (zr (k := 27) (t2 := 84) hG ha rfl) (by decide)) (by omega) (by omega) (by omega) (by omega) (by omega) (by omega) (by omega) (by omega) (by omega) (by omega))
                          · skip
                            refine j_aload_n hx 0 dX12_sets_179 rfl ?_
                            refine g13_19 hx hG ha kf_RX12_50 dX12_sets_180 ?_
                            refine j_iload_n hx 1 dX12_sets_183 rfl ?_
                            refine j_aload_n hx 0 dX12_sets_184 rfl ?_
                            refine g13_12 hx hG ha kf_RX12_29 dX12_sets_185 ?_
                            refine j_bipush hx dX12_sets_188 rfl ?_
                            refine j_iload_n hx 2 dX12_sets_190 rfl ?_
                            refine j_imul hx (r := 0) dX12_sets_191 (by omega) ?_
                            refine j_iload_n hx 3 dX12_sets_192 rfl ?_
                            refine j_iadd hx (r := v22) dX12_sets_193 (by omega) ?_
                            have f49 := zaI (j := (v22).toNat) hS0 (zr (k := 12) (t2 := 75) hG ha rfl) rfl (zlen hG (zr (k := 12) (t2 := 75) hG ha rfl) (n := 180) rfl rfl) (show 0 ≤ v22 by omega) (by omega) rfl
                            refine j_iald hx hG (zr (k := 12) (t2 := 75) hG ha rfl) (by decide) rfl (zlen hG (zr (k := 12) (t2 := 75) hG ha rfl) (n := 180) rfl rfl) (by omega) (by omega) (j := (v22).toNat) rfl (v := (s0 (gP G a 12) (v22).toNat)) (by rw [(zFr_g hF_s25 (zr (k := 12) (t2 := 75) hG ha rfl) (by decide)), e_s23, zU_at (Or.inl (zne (zr (k := 27) (t2 := 84) hG ha rfl) (zr (k := 12) (t2 := 75) hG ha rfl) (by decide))), e_s22, zU_at (Or.inl (zne (zr (k := 27) (t2 := 84) hG ha rfl) (zr (k := 12) (t2 := 75) hG ha rfl) (by decide))), e_s21, zU_at (Or.inl (zne (zr (k := 18) (t2 := 81) hG ha rfl) (zr (k := 12) (t2 := 75) hG ha rfl) (by decide))), (zFr_g hF_s16 (zr (k := 12) (t2 := 75) hG ha rfl) (by decide)), (zFr_g hF_s11 (zr (k := 12) (t2 := 75) hG ha rfl) (by decide)), (zFr_g hF_s5 (zr (k := 12) (t2 := 75) hG ha rfl) (by decide)), e_s3, zU_at (Or.inl (zne ha (zr (k := 12) (t2 := 75) hG ha rfl) (by decide))), e_s2, zU_at (Or.inl (zne ha (zr (k := 12) (t2 := 75) hG ha rfl) (by decide))), e_s1, zU_at (Or.inl (zne ha (zr (k := 12) (t2 := 75) hG ha rfl) (by decide)))]) dX12_sets_194 ?_
                            refine j_iast hx hG (zr (k := 19) (t2 := 82) hG ha rfl) (by decide) rfl (zlen hG (zr (k := 19) (t2 := 82) hG ha rfl) (n := 60) rfl rfl) (by omega) (by omega) (j := (v21).toNat) rfl dX12_sets_195 ?_
                            obtain ⟨s43, e_s43⟩ : ∃ z, z = zU s25 (gP G a 19) (v21).toNat ((s0 (gP G a 12) (v22).toNat)) := ⟨_, rfl⟩
                            rw [← e_s43]
                            have hS_s43 : zSK G s43 := by rw [e_s43]; exact zSK_A hS_s25 (zr (k := 19) (t2 := 82) hG ha rfl) rfl rfl rfl (by omega)
                            refine j_aload_n hx 0 dX12_sets_196 rfl ?_
                            refine g13_27 hx hG ha kf_RX12_56 dX12_sets_197 ?_
                            refine j_iconst hx dX12_sets_200 ?_
                            refine j_bipush hx dX12_sets_201 rfl ?_
                            refine j_iload_n hx 2 dX12_sets_203 rfl ?_
                            refine j_imul hx (r := 0) dX12_sets_204 (by omega) ?_
                            refine j_iadd hx (r := 0) dX12_sets_205 (by omega) ?_
                            refine j_iload_n hx 3 dX12_sets_206 rfl ?_
                            refine j_iadd hx (r := v22) dX12_sets_207 (by omega) ?_
                            refine j_iload_n hx 1 dX12_sets_208 rfl ?_
                            refine j_iast hx hG (zr (k := 27) (t2 := 84) hG ha rfl) (by decide) rfl (zlen hG (zr (k := 27) (t2 := 84) hG ha rfl) (n := 515) rfl rfl) (by omega) (by omega) (j := (v22).toNat) rfl dX12_sets_209 ?_
                            obtain ⟨s44, e_s44⟩ : ∃ z, z = zU s43 (gP G a 27) (v22).toNat v21 := ⟨_, rfl⟩
                            rw [← e_s44]
                            have hS_s44 : zSK G s44 := by rw [e_s44]; exact zSK_a hS_s43 (zr (k := 27) (t2 := 84) hG ha rfl) rfl rfl (congrArg some (axS_0 (v22).toNat (by omega))) (by omega)
                            have g51 : zc (s43 (gP G a 27)) = zc (s25 (gP G a 27)) := by rw [e_s43, zU_ne (zne (zr (k := 27) (t2 := 84) hG ha rfl) (zr (k := 19) (t2 := 82) hG ha rfl) (by decide))]
                            have z50 : zc (s44 (gP G a 27)) = zc (s43 (gP G a 27)) := by rw [e_s44]; exact zc_o (by omega)
                            refine j_aload_n hx 0 dX12_sets_210 rfl ?_
                            refine g13_27 hx hG ha kf_RX12_56 dX12_sets_211 ?_
                            refine j_sipush hx dX12_sets_214 rfl ?_
                            refine j_iload_n hx 1 dX12_sets_217 rfl ?_
                            refine j_iadd hx (r := v21 + 420) dX12_sets_218 (by omega) ?_
                            refine j_iload_n hx 3 dX12_sets_219 rfl ?_
                            refine j_aload_n hx 0 dX12_sets_220 rfl ?_
                            refine g13_14 hx hG ha kf_RX12_35 dX12_sets_221 ?_
                            refine j_iload_n hx 2 dX12_sets_224 rfl ?_
                            have f52 := zaI (j := 0) hS0 (zr (k := 14) (t2 := 77) hG ha rfl) rfl (zlen hG (zr (k := 14) (t2 := 77) hG ha rfl) (n := 3) rfl rfl) (show 0 ≤ 0 by omega) (by omega) rfl
                            refine j_iald hx hG (zr (k := 14) (t2 := 77) hG ha rfl) (by decide) rfl (zlen hG (zr (k := 14) (t2 := 77) hG ha rfl) (n := 3) rfl rfl) (by omega) (by omega) (j := 0) rfl (v := (s0 (gP G a 14) 0)) (by rw [e_s44, zU_at (Or.inl (zne (zr (k := 27) (t2 := 84) hG ha rfl) (zr (k := 14) (t2 := 77) hG ha rfl) (by decide))), e_s43, zU_at (Or.inl (zne (zr (k := 19) (t2 := 82) hG ha rfl) (zr (k := 14) (t2 := 77) hG ha rfl) (by decide))), (zFr_g hF_s25 (zr (k := 14) (t2 := 77) hG ha rfl) (by decide)), e_s23, zU_at (Or.inl (zne (zr (k := 27) (t2 := 84) hG ha rfl) (zr (k := 14) (t2 := 77) hG ha rfl) (by decide))), e_s22, zU_at (Or.inl (zne (zr (k := 27) (t2 := 84) hG ha rfl) (zr (k := 14) (t2 := 77) hG ha rfl) (by decide))), e_s21, zU_at (Or.inl (zne (zr (k := 18) (t2 := 81) hG ha rfl) (zr (k := 14) (t2 := 77) hG ha rfl) (by decide))), (zFr_g hF_s16 (zr (k := 14) (t2 := 77) hG ha rfl) (by decide)), (zFr_g hF_s11 (zr (k := 14) (t2 := 77) hG ha rfl) (by decide)), (zFr_g hF_s5 (zr (k := 14) (t2 := 77) hG ha rfl) (by decide)), e_s3, zU_at (Or.inl (zne ha (zr (k := 14) (t2 := 77) hG ha rfl) (by decide))), e_s2, zU_at (Or.inl (zne ha (zr (k := 14) (t2 := 77) hG ha rfl) (by decide))), e_s1, zU_at (Or.inl (zne ha (zr (k := 14) (t2 := 77) hG ha rfl) (by decide)))]) dX12_sets_225 ?_
                            refine j_icmp_ge hx 233 dX12_sets_226 rfl (by omega) (by omega) (fun h53 => ?_) (fun h53 => ?_)
                            · skip
                              refine j_iconst hx dX12_sets_233 ?_
                              refine j_iast hx hG (zr (k := 27) (t2 := 84) hG ha rfl) (by decide) rfl (zlen hG (zr (k := 27) (t2 := 84) hG ha rfl) (n := 515) rfl rfl) (by omega) (by omega) (j := (v21 + 420).toNat) rfl dX12_sets_234 ?_
                              obtain ⟨s45, e_s45⟩ : ∃ z, z = zU s44 (gP G a 27) (v21 + 420).toNat 0 := ⟨_, rfl⟩
                              rw [← e_s45]
                              have hS_s45 : zSK G s45 := by rw [e_s45]; exact zSK_a hS_s44 (zr (k := 27) (t2 := 84) hG ha rfl) rfl rfl (congrArg some (axS_1 (v21 + 420).toNat (by omega))) (by omega)
                              refine j_iinc hx 1 [(1, .int (zI (v21 + 1))), (0, .ref a), (2, .int (zI 0)), (3, .int (zI v22))] dX12_sets_235 rfl (by omega) (by decide) rfl ?_
                              refine j_iinc hx 3 [(3, .int (zI (v22 + 1))), (1, .int (zI (v21 + 1))), (0, .ref a), (2, .int (zI 0))] dX12_sets_238 rfl (by omega) (by decide) rfl ?_
                              refine j_goto hx 165 dX12_sets_241 rfl ?_
                              have g55 : s45 (gP G a 27) 481 = s25 (gP G a 27) 481 := (by rw [e_s45, zU_at (Or.inr (by omega)), e_s44, zU_at (Or.inr (by omega)), e_s43, zU_at (Or.inl (zne (zr (k := 19) (t2 := 82) hG ha rfl) (zr (k := 27) (t2 := 84) hG ha rfl) (by decide)))])
                              have g56 : s45 (gP G a 27) 482 = s25 (gP G a 27) 482 := (by rw [e_s45, zU_at (Or.inr (by omega)), e_s44, zU_at (Or.inr (by omega)), e_s43, zU_at (Or.inl (zne (zr (k := 19) (t2 := 82) hG ha rfl) (zr (k := 27) (t2 := 84) hG ha rfl) (by decide)))])
                              have g57 : s45 (gP G a 27) 483 = s25 (gP G a 27) 483 := (by rw [e_s45, zU_at (Or.inr (by omega)), e_s44, zU_at (Or.inr (by omega)), e_s43, zU_at (Or.inl (zne (zr (k := 19) (t2 := 82) hG ha rfl) (zr (k := 27) (t2 := 84) hG ha rfl) (by decide)))])
                              have g58 : s45 (gP G a 27) 484 = s25 (gP G a 27) 484 := (by rw [e_s45, zU_at (Or.inr (by omega)), e_s44, zU_at (Or.inr (by omega)), e_s43, zU_at (Or.inl (zne (zr (k := 19) (t2 := 82) hG ha rfl) (zr (k := 27) (t2 := 84) hG ha rfl) (by decide)))])
                              have g59 : s45 (gP G a 27) 485 = s25 (gP G a 27) 485 := (by rw [e_s45, zU_at (Or.inr (by omega)), e_s44, zU_at (Or.inr (by omega)), e_s43, zU_at (Or.inl (zne (zr (k := 19) (t2 := 82) hG ha rfl) (zr (k := 27) (t2 := 84) hG ha rfl) (by decide)))])
                              have g60 : s45 (gP G a 27) 486 = s25 (gP G a 27) 486 := (by rw [e_s45, zU_at (Or.inr (by omega)), e_s44, zU_at (Or.inr (by omega)), e_s43, zU_at (Or.inl (zne (zr (k := 19) (t2 := 82) hG ha rfl) (zr (k := 27) (t2 := 84) hG ha rfl) (by decide)))])
                              have g61 : s45 (gP G a 27) 488 = s25 (gP G a 27) 488 := (by rw [e_s45, zU_at (Or.inr (by omega)), e_s44, zU_at (Or.inr (by omega)), e_s43, zU_at (Or.inl (zne (zr (k := 19) (t2 := 82) hG ha rfl) (zr (k := 27) (t2 := 84) hG ha rfl) (by decide)))])
                              exact j_sub [2, 1, 3, 0] [(0, .ref a), (1, .int (zI (v21 + 1))), (2, .int (zI 0)), (3, .int (zI (v22 + 1)))] rfl (ih_c165_24 (v21 + 1) (v22 + 1) s45 (by omega) (by omega) (by omega) hS_s45 (zFr_u (zFr_u (zFr_u (zFr_t zFr_rf hF_s25 (by decide)) e_s43 (zr (k := 19) (t2 := 82) hG ha rfl) (by decide)) e_s44 (zr (k := 27) (t2 := 84) hG ha rfl) (by decide)) e_s45 (zr (k := 27) (t2 := 84) hG ha rfl) (by decide)) (by omega) (by omega) (by omega) (by omega) (by omega) (by omega) (by omega) (by omega) (by omega) (by omega))
                            · skip
                              refine j_iconst hx dX12_sets_229 ?_
                              refine j_goto hx 234 dX12_sets_230 rfl ?_
                              refine j_iast hx hG (zr (k := 27) (t2 := 84) hG ha rfl) (by decide) rfl (zlen hG (zr (k := 27) (t2 := 84) hG ha rfl) (n := 515) rfl rfl) (by omega) (by omega) (j := (v21 + 420).toNat) rfl dX12_sets_234 ?_
                              obtain ⟨s46, e_s46⟩ : ∃ z, z = zU s44 (gP G a 27) (v21 + 420).toNat 1 := ⟨_, rfl⟩
                              rw [← e_s46]
                              have hS_s46 : zSK G s46 := by rw [e_s46]; exact zSK_a hS_s44 (zr (k := 27) (t2 := 84) hG ha rfl) rfl rfl (congrArg some (axS_1 (v21 + 420).toNat (by omega))) (by omega)
                              refine j_iinc hx 1 [(1, .int (zI (v21 + 1))), (0, .ref a), (2, .int (zI 0)), (3, .int (zI v22))] dX12_sets_235 rfl (by omega) (by decide) rfl ?_
                              refine j_iinc hx 3 [(3, .int (zI (v22 + 1))), (1, .int (zI (v21 + 1))), (0, .ref a), (2, .int (zI 0))] dX12_sets_238 rfl (by omega) (by decide) rfl ?_
                              refine j_goto hx 165 dX12_sets_241 rfl ?_
                              have g63 : s46 (gP G a 27) 481 = s25 (gP G a 27) 481 := (by rw [e_s46, zU_at (Or.inr (by omega)), e_s44, zU_at (Or.inr (by omega)), e_s43, zU_at (Or.inl (zne (zr (k := 19) (t2 := 82) hG ha rfl) (zr (k := 27) (t2 := 84) hG ha rfl) (by decide)))])
                              have g64 : s46 (gP G a 27) 482 = s25 (gP G a 27) 482 := (by rw [e_s46, zU_at (Or.inr (by omega)), e_s44, zU_at (Or.inr (by omega)), e_s43, zU_at (Or.inl (zne (zr (k := 19) (t2 := 82) hG ha rfl) (zr (k := 27) (t2 := 84) hG ha rfl) (by decide)))])
                              have g65 : s46 (gP G a 27) 483 = s25 (gP G a 27) 483 := (by rw [e_s46, zU_at (Or.inr (by omega)), e_s44, zU_at (Or.inr (by omega)), e_s43, zU_at (Or.inl (zne (zr (k := 19) (t2 := 82) hG ha rfl) (zr (k := 27) (t2 := 84) hG ha rfl) (by decide)))])
                              have g66 : s46 (gP G a 27) 484 = s25 (gP G a 27) 484 := (by rw [e_s46, zU_at (Or.inr (by omega)), e_s44, zU_at (Or.inr (by omega)), e_s43, zU_at (Or.inl (zne (zr (k := 19) (t2 := 82) hG ha rfl) (zr (k := 27) (t2 := 84) hG ha rfl) (by decide)))])
                              have g67 : s46 (gP G a 27) 485 = s25 (gP G a 27) 485 := (by rw [e_s46, zU_at (Or.inr (by omega)), e_s44, zU_at (Or.inr (by omega)), e_s43, zU_at (Or.inl (zne (zr (k := 19) (t2 := 82) hG ha rfl) (zr (k := 27) (t2 := 84) hG ha rfl) (by decide)))])
                              have g68 : s46 (gP G a 27) 486 = s25 (gP G a 27) 486 := (by rw [e_s46, zU_at (Or.inr (by omega)), e_s44, zU_at (Or.inr (by omega)), e_s43, zU_at (Or.inl (zne (zr (k := 19) (t2 := 82) hG ha rfl) (zr (k := 27) (t2 := 84) hG ha rfl) (by decide)))])
                              have g69 : s46 (gP G a 27) 488 = s25 (gP G a 27) 488 := (by rw [e_s46, zU_at (Or.inr (by omega)), e_s44, zU_at (Or.inr (by omega)), e_s43, zU_at (Or.inl (zne (zr (k := 19) (t2 := 82) hG ha rfl) (zr (k := 27) (t2 := 84) hG ha rfl) (by decide)))])
                              exact j_sub [2, 1, 3, 0] [(0, .ref a), (1, .int (zI (v21 + 1))), (2, .int (zI 0)), (3, .int (zI (v22 + 1)))] rfl (ih_c165_24 (v21 + 1) (v22 + 1) s46 (by omega) (by omega) (by omega) hS_s46 (zFr_u (zFr_u (zFr_u (zFr_t zFr_rf hF_s25 (by decide)) e_s43 (zr (k := 19) (t2 := 82) hG ha rfl) (by decide)) e_s44 (zr (k := 27) (t2 := 84) hG ha rfl) (by decide)) e_s46 (zr (k := 27) (t2 := 84) hG ha rfl) (by decide)) (by omega) (by omega) (by omega) (by omega) (by omega) (by omega) (by omega) (by omega) (by omega) (by omega))
                      exact j_sub [3, 2, 1, 0] [(0, .ref a), (1, .int (zI 0)), (2, .int (zI 0)), (3, .int (zI 0))] rfl (c165_24 (2147483648 * 4) 0 0 s23 (by omega) (by omega) (by omega) hS_s23 zFr_rf (by omega) (by omega) (by omega) (by omega) (by omega) (by omega) (by omega) (by omega) (by omega) (by omega))
                    · skip
                      refine j_aload_n hx 2 dX12_sets_152 rfl ?_
                      refine g13_13 hx hG ha kf_RX12_32 dX12_sets_153 ?_
                      refine j_iload_n hx 0 dX12_sets_156 rfl ?_
                      have f70 := zaI (j := 0) hS0 (zr (k := 13) (t2 := 76) hG ha rfl) rfl (zlen hG (zr (k := 13) (t2 := 76) hG ha rfl) (n := 3) rfl rfl) (show 0 ≤ 0 by omega) (by omega) rfl
                      refine j_iald hx hG (zr (k := 13) (t2 := 76) hG ha rfl) (by decide) rfl (zlen hG (zr (k := 13) (t2 := 76) hG ha rfl) (n := 3) rfl rfl) (by omega) (by omega) (j := 0) rfl (v := (s0 (gP G a 13) 0)) (by rw [e_s22, zU_at (Or.inl (zne (zr (k := 27) (t2 := 84) hG ha rfl) (zr (k := 13) (t2 := 76) hG ha rfl) (by decide))), e_s21, zU_at (Or.inl (zne (zr (k := 18) (t2 := 81) hG ha rfl) (zr (k := 13) (t2 := 76) hG ha rfl) (by decide))), (zFr_g hF_s16 (zr (k := 13) (t2 := 76) hG ha rfl) (by decide)), (zFr_g hF_s11 (zr (k := 13) (t2 := 76) hG ha rfl) (by decide)), (zFr_g hF_s5 (zr (k := 13) (t2 := 76) hG ha rfl) (by decide)), e_s3, zU_at (Or.inl (zne ha (zr (k := 13) (t2 := 76) hG ha rfl) (by decide))), e_s2, zU_at (Or.inl (zne ha (zr (k := 13) (t2 := 76) hG ha rfl) (by decide))), e_s1, zU_at (Or.inl (zne ha (zr (k := 13) (t2 := 76) hG ha rfl) (by decide)))]) dX12_sets_157 ?_
                      refine j_goto hx 162 dX12_sets_158 rfl ?_
                      refine j_iast hx hG (zr (k := 27) (t2 := 84) hG ha rfl) (by decide) rfl (zlen hG (zr (k := 27) (t2 := 84) hG ha rfl) (n := 515) rfl rfl) (by omega) (by omega) (j := 480) rfl dX12_sets_162 ?_
                      obtain ⟨s47, e_s47⟩ : ∃ z, z = zU s22 (gP G a 27) 480 ((s0 (gP G a 13) 0)) := ⟨_, rfl⟩
                      rw [← e_s47]
                      have hS_s47 : zSK G s47 := by rw [e_s47]; exact zSK_a hS_s22 (zr (k := 27) (t2 := 84) hG ha rfl) rfl rfl (congrArg some (axS_2 480 (by omega))) (by omega)
                      have g72 : s22 (gP G a 27) 480 = s16 (gP G a 27) 480 := (by rw [e_s22, zU_at (Or.inr (by decide)), e_s21, zU_at (Or.inl (zne (zr (k := 18) (t2 := 81) hG ha rfl) (zr (k := 27) (t2 := 84) hG ha rfl) (by decide)))])
                      have g73 : s47 (gP G a 27) 480 = (s0 (gP G a 13) 0) := (by rw [e_s47, zU_eq])
                      have z71 : zc (s47 (gP G a 27)) = zc (s22 (gP G a 27)) - s22 (gP G a 27) 480 + s47 (gP G a 27) 480 := by rw [e_s47, zU_eq]; exact zc_w (by omega) (by omega)
                      refine j_iconst hx dX12_sets_163 ?_
                      refine j_istore_n hx [(3, .int (zI 0)), (2, .int (zI 0)), (1, .int (zI 0)), (0, .ref a)] dX12_sets_164 (by decide) rfl ?_
                      have g76 : s47 (gP G a 27) 481 = s16 (gP G a 27) 481 := (by rw [e_s47, zU_at (Or.inr (by decide)), e_s22, zU_at (Or.inr (by decide)), e_s21, zU_at (Or.inl (zne (zr (k := 18) (t2 := 81) hG ha rfl) (zr (k := 27) (t2 := 84) hG ha rfl) (by decide)))])
                      have g77 : s47 (gP G a 27) 482 = s16 (gP G a 27) 482 := (by rw [e_s47, zU_at (Or.inr (by decide)), e_s22, zU_at (Or.inr (by decide)), e_s21, zU_at (Or.inl (zne (zr (k := 18) (t2 := 81) hG ha rfl) (zr (k := 27) (t2 := 84) hG ha rfl) (by decide)))])
                      have g78 : s47 (gP G a 27) 483 = s16 (gP G a 27) 483 := (by rw [e_s47, zU_at (Or.inr (by decide)), e_s22, zU_at (Or.inr (by decide)), e_s21, zU_at (Or.inl (zne (zr (k := 18) (t2 := 81) hG ha rfl) (zr (k := 27) (t2 := 84) hG ha rfl) (by decide)))])
                      have g79 : s47 (gP G a 27) 484 = s16 (gP G a 27) 484 := (by rw [e_s47, zU_at (Or.inr (by decide)), e_s22, zU_at (Or.inr (by decide)), e_s21, zU_at (Or.inl (zne (zr (k := 18) (t2 := 81) hG ha rfl) (zr (k := 27) (t2 := 84) hG ha rfl) (by decide)))])
                      have g80 : s47 (gP G a 27) 485 = s16 (gP G a 27) 485 := (by rw [e_s47, zU_at (Or.inr (by decide)), e_s22, zU_at (Or.inr (by decide)), e_s21, zU_at (Or.inl (zne (zr (k := 18) (t2 := 81) hG ha rfl) (zr (k := 27) (t2 := 84) hG ha rfl) (by decide)))])
                      have g81 : s47 (gP G a 27) 486 = s16 (gP G a 27) 486 := (by rw [e_s47, zU_at (Or.inr (by decide)), e_s22, zU_at (Or.inr (by decide)), e_s21, zU_at (Or.inl (zne (zr (k := 18) (t2 := 81) hG ha rfl) (zr (k := 27) (t2 := 84) hG ha rfl) (by decide)))])
                      have g82 : s47 (gP G a 27) 488 = s16 (gP G a 27) 488 := (by rw [e_s47, zU_at (Or.inr (by decide)), e_s22, zU_at (Or.inr (by decide)), e_s21, zU_at (Or.inl (zne (zr (k := 18) (t2 := 81) hG ha rfl) (zr (k := 27) (t2 := 84) hG ha rfl) (by decide)))])
                      have c165_48 : ∀ (m_c165_48 : Nat) (v74 : Int) (v75 : Int) (s49 : zS), 2147483648 - v75 < m_c165_48 → (0 ≤ v74 ∧ v74 ≤ 60) → (0 ≤ v75 ∧ v75 ≤ 60) → (zSK G s49) → (zFr [82, 84] G s47 s49) → (zc (s49 (gP G a 27)) = zc (s47 (gP G a 27))) → (v74 = 0 + v75) → (s49 (gP G a 27) 480 = s47 (gP G a 27) 480) → (s49 (gP G a 27) 481 = s47 (gP G a 27) 481) → (s49 (gP G a 27) 482 = s47 (gP G a 27) 482) → (s49 (gP G a 27) 483 = s47 (gP G a 27) 483) → (s49 (gP G a 27) 484 = s47 (gP G a 27) 484) → (s49 (gP G a 27) 485 = s47 (gP G a 27) 485) → (s49 (gP G a 27) 486 = s47 (gP G a 27) 486) → (s49 (gP G a 27) 488 = s47 (gP G a 27) 488) → JJ X E 4 G s49 0 0 [(0, .ref a), (1, .int (zI v74)), (2, .int (zI 0)), (3, .int (zI v75))] 165 [] := by
                        intro m_c165_48
                        induction m_c165_48 with
                        | zero => intro v74 v75 s49 hm_c165_48 fA50 fA51 hS_s49 hF_s49 fA54 fA55 fA56 fA57 fA58 fA59 fA60 fA61 fA62 fA63; exfalso; omega
                        | succ m_c165_48 ih_c165_48 => 
                          intro v74 v75 s49 hm_c165_48 fA50 fA51 hS_s49 hF_s49 fA54 fA55 fA56 fA57 fA58 fA59 fA60 fA61 fA62 fA63
                          refine j_iload_n hx 3 dX12_sets_165 rfl ?_
                          refine j_aload_n hx 0 dX12_sets_166 rfl ?_
                          refine g13_27 hx hG ha kf_RX12_56 dX12_sets_167 ?_
                          refine j_sipush hx dX12_sets_170 rfl ?_
                          refine j_iload_n hx 2 dX12_sets_173 rfl ?_
                          refine j_iadd hx (r := 480) dX12_sets_174 (by omega) ?_
                          have f83 := zaQ (j := 480) hS_s49 (zr (k := 27) (t2 := 84) hG ha rfl) (congrArg some (axS_2 480 (by omega))) (zlen hG (zr (k := 27) (t2 := 84) hG ha rfl) (n := 515) rfl rfl) (show 0 ≤ 480 by omega) (by omega) rfl
                          have c84 := zc_1 (j := 480) hS_s49 (zr (k := 27) (t2 := 84) hG ha rfl) (zn hG (zr (k := 27) (t2 := 84) hG ha rfl) rfl) (by omega) (by omega)
                          refine j_iald hx hG (zr (k := 27) (t2 := 84) hG ha rfl) (by decide) rfl (zlen hG (zr (k := 27) (t2 := 84) hG ha rfl) (n := 515) rfl rfl) (by omega) (by omega) (j := 480) rfl rfl dX12_sets_175 ?_
                          refine j_icmp_ge hx 244 dX12_sets_176 rfl (by omega) (by omega) (fun h85 => ?_) (fun h85 => ?_)
                          · skip
                            refine j_iinc hx 2 [(2, .int (zI 1)), (0, .ref a), (1, .int (zI v74)), (3, .int (zI v75))] dX12_sets_244 rfl (by omega) (by decide) rfl ?_
                            refine j_goto hx 102 dX12_sets_247 rfl ?_
                            refine j_iload_n hx 0 dX12_sets_102 rfl ?_
                            refine j_iconst hx dX12_sets_103 ?_
                            refine j_icmp_ge hx 250 dX12_sets_104 rfl ⟨by decide, by decide⟩ ⟨by decide, by decide⟩ (fun h86 => absurd h86 (by omega)) (fun h86 => ?_)
                            refine j_aload_n hx 1 dX12_sets_107 rfl ?_
                            refine g13_18 hx hG ha kf_RX12_47 dX12_sets_108 ?_
                            refine j_iload_n hx 0 dX12_sets_111 rfl ?_
                            refine j_aload_n hx 1 dX12_sets_112 rfl ?_
                            refine g13_11 hx hG ha kf_RX12_26 dX12_sets_113 ?_
                            refine j_iload_n hx 0 dX12_sets_116 rfl ?_
                            have f87 := zaI (j := 1) hS0 (zr (k := 11) (t2 := 74) hG ha rfl) rfl (zlen hG (zr (k := 11) (t2 := 74) hG ha rfl) (n := 3) rfl rfl) (show 0 ≤ 1 by omega) (by omega) rfl
                            refine j_iald hx hG (zr (k := 11) (t2 := 74) hG ha rfl) (by decide) rfl (zlen hG (zr (k := 11) (t2 := 74) hG ha rfl) (n := 3) rfl rfl) (by omega) (by omega) (j := 1) rfl (v := (s0 (gP G a 11) 1)) (by rw [(zFr_g hF_s49 (zr (k := 11) (t2 := 74) hG ha rfl) (by decide)), e_s47, zU_at (Or.inl (zne (zr (k := 27) (t2 := 84) hG ha rfl) (zr (k := 11) (t2 := 74) hG ha rfl) (by decide))), e_s22, zU_at (Or.inl (zne (zr (k := 27) (t2 := 84) hG ha rfl) (zr (k := 11) (t2 := 74) hG ha rfl) (by decide))), e_s21, zU_at (Or.inl (zne (zr (k := 18) (t2 := 81) hG ha rfl) (zr (k := 11) (t2 := 74) hG ha rfl) (by decide))), (zFr_g hF_s16 (zr (k := 11) (t2 := 74) hG ha rfl) (by decide)), (zFr_g hF_s11 (zr (k := 11) (t2 := 74) hG ha rfl) (by decide)), (zFr_g hF_s5 (zr (k := 11) (t2 := 74) hG ha rfl) (by decide)), e_s3, zU_at (Or.inl (zne ha (zr (k := 11) (t2 := 74) hG ha rfl) (by decide))), e_s2, zU_at (Or.inl (zne ha (zr (k := 11) (t2 := 74) hG ha rfl) (by decide))), e_s1, zU_at (Or.inl (zne ha (zr (k := 11) (t2 := 74) hG ha rfl) (by decide)))]) dX12_sets_117 ?_
                            refine j_iast hx hG (zr (k := 18) (t2 := 81) hG ha rfl) (by decide) rfl (zlen hG (zr (k := 18) (t2 := 81) hG ha rfl) (n := 3) rfl rfl) (by omega) (by omega) (j := 1) rfl dX12_sets_118 ?_
                            obtain ⟨s64, e_s64⟩ : ∃ z, z = zU s49 (gP G a 18) 1 ((s0 (gP G a 11) 1)) := ⟨_, rfl⟩
                            rw [← e_s64]
                            have hS_s64 : zSK G s64 := by rw [e_s64]; exact zSK_A hS_s49 (zr (k := 18) (t2 := 81) hG ha rfl) rfl rfl rfl (by omega)
                            refine j_aload_n hx 1 dX12_sets_119 rfl ?_
                            refine g13_27 hx hG ha kf_RX12_56 dX12_sets_120 ?_
                            refine j_sipush hx dX12_sets_123 rfl ?_
                            refine j_iload_n hx 0 dX12_sets_126 rfl ?_
                            refine j_iadd hx (r := 492) dX12_sets_127 (by omega) ?_
                            refine j_aload_n hx 1 dX12_sets_128 rfl ?_
                            refine g13_15 hx hG ha kf_RX12_38 dX12_sets_129 ?_
                            refine j_iload_n hx 0 dX12_sets_132 rfl ?_
                            have f88 := zaI (j := 1) hS0 (zr (k := 15) (t2 := 78) hG ha rfl) rfl (zlen hG (zr (k := 15) (t2 := 78) hG ha rfl) (n := 3) rfl rfl) (show 0 ≤ 1 by omega) (by omega) rfl
                            refine j_iald hx hG (zr (k := 15) (t2 := 78) hG ha rfl) (by decide) rfl (zlen hG (zr (k := 15) (t2 := 78) hG ha rfl) (n := 3) rfl rfl) (by omega) (by omega) (j := 1) rfl (v := (s0 (gP G a 15) 1)) (by rw [e_s64, zU_at (Or.inl (zne (zr (k := 18) (t2 := 81) hG ha rfl) (zr (k := 15) (t2 := 78) hG ha rfl) (by decide))), (zFr_g hF_s49 (zr (k := 15) (t2 := 78) hG ha rfl) (by decide)), e_s47, zU_at (Or.inl (zne (zr (k := 27) (t2 := 84) hG ha rfl) (zr (k := 15) (t2 := 78) hG ha rfl) (by decide))), e_s22, zU_at (Or.inl (zne (zr (k := 27) (t2 := 84) hG ha rfl) (zr (k := 15) (t2 := 78) hG ha rfl) (by decide))), e_s21, zU_at (Or.inl (zne (zr (k := 18) (t2 := 81) hG ha rfl) (zr (k := 15) (t2 := 78) hG ha rfl) (by decide))), (zFr_g hF_s16 (zr (k := 15) (t2 := 78) hG ha rfl) (by decide)), (zFr_g hF_s11 (zr (k := 15) (t2 := 78) hG ha rfl) (by decide)), (zFr_g hF_s5 (zr (k := 15) (t2 := 78) hG ha rfl) (by decide)), e_s3, zU_at (Or.inl (zne ha (zr (k := 15) (t2 := 78) hG ha rfl) (by decide))), e_s2, zU_at (Or.inl (zne ha (zr (k := 15) (t2 := 78) hG ha rfl) (by decide))), e_s1, zU_at (Or.inl (zne ha (zr (k := 15) (t2 := 78) hG ha rfl) (by decide)))]) dX12_sets_133 ?_
                            refine j_iast hx hG (zr (k := 27) (t2 := 84) hG ha rfl) (by decide) rfl (zlen hG (zr (k := 27) (t2 := 84) hG ha rfl) (n := 515) rfl rfl) (by omega) (by omega) (j := 492) rfl dX12_sets_134 ?_
                            obtain ⟨s65, e_s65⟩ : ∃ z, z = zU s64 (gP G a 27) 492 ((s0 (gP G a 15) 1)) := ⟨_, rfl⟩
                            rw [← e_s65]
                            have hS_s65 : zSK G s65 := by rw [e_s65]; exact zSK_a hS_s64 (zr (k := 27) (t2 := 84) hG ha rfl) rfl rfl (congrArg some (axS_7 492 (by omega))) (by omega)
                            have g90 : zc (s64 (gP G a 27)) = zc (s49 (gP G a 27)) := by rw [e_s64, zU_ne (zne (zr (k := 27) (t2 := 84) hG ha rfl) (zr (k := 18) (t2 := 81) hG ha rfl) (by decide))]
                            have z89 : zc (s65 (gP G a 27)) = zc (s64 (gP G a 27)) := by rw [e_s65]; exact zc_o (by omega)
                            refine j_aload_n hx 1 dX12_sets_135 rfl ?_
                            refine g13_27 hx hG ha kf_RX12_56 dX12_sets_136 ?_
                            refine j_sipush hx dX12_sets_139 rfl ?_
                            refine j_iload_n hx 0 dX12_sets_142 rfl ?_
                            refine j_iadd hx (r := 481) dX12_sets_143 (by omega) ?_
                            refine j_iload_n hx 0 dX12_sets_144 rfl ?_
                            refine j_aload_n hx 1 dX12_sets_145 rfl ?_
                            refine g13_21 hx hG ha kf_RX12_180 (v := (s0 a 21)) (by rw [e_s65, zU_at (Or.inl (zne (zr (k := 27) (t2 := 84) hG ha rfl) ha (by decide))), e_s64, zU_at (Or.inl (zne (zr (k := 18) (t2 := 81) hG ha rfl) ha (by decide))), (zFr_g hF_s49 ha (by decide)), e_s47, zU_at (Or.inl (zne (zr (k := 27) (t2 := 84) hG ha rfl) ha (by decide))), e_s22, zU_at (Or.inl (zne (zr (k := 27) (t2 := 84) hG ha rfl) ha (by decide))), e_s21, zU_at (Or.inl (zne (zr (k := 18) (t2 := 81) hG ha rfl) ha (by decide))), (zFr_g hF_s16 ha (by decide)), (zFr_g hF_s11 ha (by decide)), (zFr_g hF_s5 ha (by decide)), e_s3, zU_at (Or.inr (by decide)), e_s2, zU_at (Or.inr (by decide)), e_s1, zU_at (Or.inr (by decide))]) dX12_sets_146 ?_
                            refine j_icmp_ge hx 161 dX12_sets_149 rfl ⟨by decide, by decide⟩ (by omega) (fun h91 => ?_) (fun h91 => ?_)
                            · skip
                              refine j_iconst hx dX12_sets_161 ?_
                              refine j_iast hx hG (zr (k := 27) (t2 := 84) hG ha rfl) (by decide) rfl (zlen hG (zr (k := 27) (t2 := 84) hG ha rfl) (n := 515) rfl rfl) (by omega) (by omega) (j := 481) rfl dX12_sets_162 ?_
                              obtain ⟨s66, e_s66⟩ : ∃ z, z = zU s65 (gP G a 27) 481 0 := ⟨_, rfl⟩
                              rw [← e_s66]
                              have hS_s66 : zSK G s66 := by rw [e_s66]; exact zSK_a hS_s65 (zr (k := 27) (t2 := 84) hG ha rfl) rfl rfl (congrArg some (axS_2 481 (by omega))) (by omega)
                              have g93 : s65 (gP G a 27) 481 = s49 (gP G a 27) 481 := (by rw [e_s65, zU_at (Or.inr (by decide)), e_s64, zU_at (Or.inl (zne (zr (k := 18) (t2 := 81) hG ha rfl) (zr (k := 27) (t2 := 84) hG ha rfl) (by decide)))])
                              have g94 : s66 (gP G a 27) 481 = 0 := (by rw [e_s66, zU_eq])
                              have z92 : zc (s66 (gP G a 27)) = zc (s65 (gP G a 27)) - s65 (gP G a 27) 481 + s66 (gP G a 27) 481 := by rw [e_s66, zU_eq]; exact zc_w (by omega) (by omega)
                              refine j_iconst hx dX12_sets_163 ?_
                              refine j_istore_n hx [(3, .int (zI 0)), (2, .int (zI 1)), (0, .ref a), (1, .int (zI v74))] dX12_sets_164 (by decide) rfl ?_
                              have g95 : s66 (gP G a 27) 480 = s49 (gP G a 27) 480 := (by rw [e_s66, zU_at (Or.inr (by decide)), e_s65, zU_at (Or.inr (by decide)), e_s64, zU_at (Or.inl (zne (zr (k := 18) (t2 := 81) hG ha rfl) (zr (k := 27) (t2 := 84) hG ha rfl) (by decide)))])
                              have g96 : s66 (gP G a 27) 482 = s49 (gP G a 27) 482 := (by rw [e_s66, zU_at (Or.inr (by decide)), e_s65, zU_at (Or.inr (by decide)), e_s64, zU_at (Or.inl (zne (zr (k := 18) (t2 := 81) hG ha rfl) (zr (k := 27) (t2 := 84) hG ha rfl) (by decide)))])
                              have g97 : s66 (gP G a 27) 483 = s49 (gP G a 27) 483 := (by rw [e_s66, zU_at (Or.inr (by decide)), e_s65, zU_at (Or.inr (by decide)), e_s64, zU_at (Or.inl (zne (zr (k := 18) (t2 := 81) hG ha rfl) (zr (k := 27) (t2 := 84) hG ha rfl) (by decide)))])
                              have g98 : s66 (gP G a 27) 484 = s49 (gP G a 27) 484 := (by rw [e_s66, zU_at (Or.inr (by decide)), e_s65, zU_at (Or.inr (by decide)), e_s64, zU_at (Or.inl (zne (zr (k := 18) (t2 := 81) hG ha rfl) (zr (k := 27) (t2 := 84) hG ha rfl) (by decide)))])
                              have g99 : s66 (gP G a 27) 485 = s49 (gP G a 27) 485 := (by rw [e_s66, zU_at (Or.inr (by decide)), e_s65, zU_at (Or.inr (by decide)), e_s64, zU_at (Or.inl (zne (zr (k := 18) (t2 := 81) hG ha rfl) (zr (k := 27) (t2 := 84) hG ha rfl) (by decide)))])
                              have g100 : s66 (gP G a 27) 486 = s49 (gP G a 27) 486 := (by rw [e_s66, zU_at (Or.inr (by decide)), e_s65, zU_at (Or.inr (by decide)), e_s64, zU_at (Or.inl (zne (zr (k := 18) (t2 := 81) hG ha rfl) (zr (k := 27) (t2 := 84) hG ha rfl) (by decide)))])
                              have g101 : s66 (gP G a 27) 488 = s49 (gP G a 27) 488 := (by rw [e_s66, zU_at (Or.inr (by decide)), e_s65, zU_at (Or.inr (by decide)), e_s64, zU_at (Or.inl (zne (zr (k := 18) (t2 := 81) hG ha rfl) (zr (k := 27) (t2 := 84) hG ha rfl) (by decide)))])
                              exact j_sub [2, 3, 1, 0] [(0, .ref a), (1, .int (zI v74)), (2, .int (zI 1)), (3, .int (zI 0))] rfl (ih_c165_48 v74 0 s66 (by omega) (by omega) (by omega) hS_s66 (zFr_u (zFr_u (zFr_u (zFr_t zFr_rf hF_s49 (by decide)) e_s64 (zr (k := 18) (t2 := 81) hG ha rfl) (by decide)) e_s65 (zr (k := 27) (t2 := 84) hG ha rfl) (by decide)) e_s66 (zr (k := 27) (t2 := 84) hG ha rfl) (by decide)) (by omega) (by omega) (by omega) (by omega) (by omega) (by omega) (by omega) (by omega) (by omega) (by omega))
                            · skip
                              refine j_aload_n hx 1 dX12_sets_152 rfl ?_
                              refine g13_13 hx hG ha kf_RX12_32 dX12_sets_153 ?_
                              refine j_iload_n hx 0 dX12_sets_156 rfl ?_
                              have f102 := zaI (j := 1) hS0 (zr (k := 13) (t2 := 76) hG ha rfl) rfl (zlen hG (zr (k := 13) (t2 := 76) hG ha rfl) (n := 3) rfl rfl) (show 0 ≤ 1 by omega) (by omega) rfl
                              refine j_iald hx hG (zr (k := 13) (t2 := 76) hG ha rfl) (by decide) rfl (zlen hG (zr (k := 13) (t2 := 76) hG ha rfl) (n := 3) rfl rfl) (by omega) (by omega) (j := 1) rfl (v := (s0 (gP G a 13) 1)) (by rw [e_s65, zU_at (Or.inl (zne (zr (k := 27) (t2 := 84) hG ha rfl) (zr (k := 13) (t2 := 76) hG ha rfl) (by decide))), e_s64, zU_at (Or.inl (zne (zr (k := 18) (t2 := 81) hG ha rfl) (zr (k := 13) (t2 := 76) hG ha rfl) (by decide))), (zFr_g hF_s49 (zr (k := 13) (t2 := 76) hG ha rfl) (by decide)), e_s47, zU_at (Or.inl (zne (zr (k := 27) (t2 := 84) hG ha rfl) (zr (k := 13) (t2 := 76) hG ha rfl) (by decide))), e_s22, zU_at (Or.inl (zne (zr (k := 27) (t2 := 84) hG ha rfl) (zr (k := 13) (t2 := 76) hG ha rfl) (by decide))), e_s21, zU_at (Or.inl (zne (zr (k := 18) (t2 := 81) hG ha rfl) (zr (k := 13) (t2 := 76) hG ha rfl) (by decide))), (zFr_g hF_s16 (zr (k := 13) (t2 := 76) hG ha rfl) (by decide)), (zFr_g hF_s11 (zr (k := 13) (t2 := 76) hG ha rfl) (by decide)), (zFr_g hF_s5 (zr (k := 13) (t2 := 76) hG ha rfl) (by decide)), e_s3, zU_at (Or.inl (zne ha (zr (k := 13) (t2 := 76) hG ha rfl) (by decide))), e_s2, zU_at (Or.inl (zne ha (zr (k := 13) (t2 := 76) hG ha rfl) (by decide))), e_s1, zU_at (Or.inl (zne ha (zr (k := 13) (t2 := 76) hG ha rfl) (by decide)))]) dX12_sets_157 ?_
                              refine j_goto hx 162 dX12_sets_158 rfl ?_
                              refine j_iast hx hG (zr (k := 27) (t2 := 84) hG ha rfl) (by decide) rfl (zlen hG (zr (k := 27) (t2 := 84) hG ha rfl) (n := 515) rfl rfl) (by omega) (by omega) (j := 481) rfl dX12_sets_162 ?_
                              obtain ⟨s67, e_s67⟩ : ∃ z, z = zU s65 (gP G a 27) 481 ((s0 (gP G a 13) 1)) := ⟨_, rfl⟩
                              rw [← e_s67]
                              have hS_s67 : zSK G s67 := by rw [e_s67]; exact zSK_a hS_s65 (zr (k := 27) (t2 := 84) hG ha rfl) rfl rfl (congrArg some (axS_2 481 (by omega))) (by omega)
                              have g104 : s65 (gP G a 27) 481 = s49 (gP G a 27) 481 := (by rw [e_s65, zU_at (Or.inr (by decide)), e_s64, zU_at (Or.inl (zne (zr (k := 18) (t2 := 81) hG ha rfl) (zr (k := 27) (t2 := 84) hG ha rfl) (by decide)))])
                              have g105 : s67 (gP G a 27) 481 = (s0 (gP G a 13) 1) := (by rw [e_s67, zU_eq])
                              have z103 : zc (s67 (gP G a 27)) = zc (s65 (gP G a 27)) - s65 (gP G a 27) 481 + s67 (gP G a 27) 481 := by rw [e_s67, zU_eq]; exact zc_w (by omega) (by omega)
                              refine j_iconst hx dX12_sets_163 ?_
                              refine j_istore_n hx [(3, .int (zI 0)), (2, .int (zI 1)), (0, .ref a), (1, .int (zI v74))] dX12_sets_164 (by decide) rfl ?_
                              have g106 : s67 (gP G a 27) 480 = s49 (gP G a 27) 480 := (by rw [e_s67, zU_at (Or.inr (by decide)), e_s65, zU_at (Or.inr (by decide)), e_s64, zU_at (Or.inl (zne (zr (k := 18) (t2 := 81) hG ha rfl) (zr (k := 27) (t2 := 84) hG ha rfl) (by decide)))])
                              have g107 : s67 (gP G a 27) 482 = s49 (gP G a 27) 482 := (by rw [e_s67, zU_at (Or.inr (by decide)), e_s65, zU_at (Or.inr (by decide)), e_s64, zU_at (Or.inl (zne (zr (k := 18) (t2 := 81) hG ha rfl) (zr (k := 27) (t2 := 84) hG ha rfl) (by decide)))])
                              have g108 : s67 (gP G a 27) 483 = s49 (gP G a 27) 483 := (by rw [e_s67, zU_at (Or.inr (by decide)), e_s65, zU_at (Or.inr (by decide)), e_s64, zU_at (Or.inl (zne (zr (k := 18) (t2 := 81) hG ha rfl) (zr (k := 27) (t2 := 84) hG ha rfl) (by decide)))])
                              have g109 : s67 (gP G a 27) 484 = s49 (gP G a 27) 484 := (by rw [e_s67, zU_at (Or.inr (by decide)), e_s65, zU_at (Or.inr (by decide)), e_s64, zU_at (Or.inl (zne (zr (k := 18) (t2 := 81) hG ha rfl) (zr (k := 27) (t2 := 84) hG ha rfl) (by decide)))])
                              have g110 : s67 (gP G a 27) 485 = s49 (gP G a 27) 485 := (by rw [e_s67, zU_at (Or.inr (by decide)), e_s65, zU_at (Or.inr (by decide)), e_s64, zU_at (Or.inl (zne (zr (k := 18) (t2 := 81) hG ha rfl) (zr (k := 27) (t2 := 84) hG ha rfl) (by decide)))])
                              have g111 : s67 (gP G a 27) 486 = s49 (gP G a 27) 486 := (by rw [e_s67, zU_at (Or.inr (by decide)), e_s65, zU_at (Or.inr (by decide)), e_s64, zU_at (Or.inl (zne (zr (k := 18) (t2 := 81) hG ha rfl) (zr (k := 27) (t2 := 84) hG ha rfl) (by decide)))])
                              have g112 : s67 (gP G a 27) 488 = s49 (gP G a 27) 488 := (by rw [e_s67, zU_at (Or.inr (by decide)), e_s65, zU_at (Or.inr (by decide)), e_s64, zU_at (Or.inl (zne (zr (k := 18) (t2 := 81) hG ha rfl) (zr (k := 27) (t2 := 84) hG ha rfl) (by decide)))])
                              exact j_sub [2, 3, 1, 0] [(0, .ref a), (1, .int (zI v74)), (2, .int (zI 1)), (3, .int (zI 0))] rfl (ih_c165_48 v74 0 s67 (by omega) (by omega) (by omega) hS_s67 (zFr_u (zFr_u (zFr_u (zFr_t zFr_rf hF_s49 (by decide)) e_s64 (zr (k := 18) (t2 := 81) hG ha rfl) (by decide)) e_s65 (zr (k := 27) (t2 := 84) hG ha rfl) (by decide)) e_s67 (zr (k := 27) (t2 := 84) hG ha rfl) (by decide)) (by omega) (by omega) (by omega) (by omega) (by omega) (by omega) (by omega) (by omega) (by omega) (by omega))
                          · skip
                            refine j_aload_n hx 0 dX12_sets_179 rfl ?_
                            refine g13_19 hx hG ha kf_RX12_50 dX12_sets_180 ?_
                            refine j_iload_n hx 1 dX12_sets_183 rfl ?_
                            refine j_aload_n hx 0 dX12_sets_184 rfl ?_
                            refine g13_12 hx hG ha kf_RX12_29 dX12_sets_185 ?_
                            refine j_bipush hx dX12_sets_188 rfl ?_
                            refine j_iload_n hx 2 dX12_sets_190 rfl ?_
                            refine j_imul hx (r := 0) dX12_sets_191 (by omega) ?_
                            refine j_iload_n hx 3 dX12_sets_192 rfl ?_
                            refine j_iadd hx (r := v75) dX12_sets_193 (by omega) ?_
                            have f113 := zaI (j := (v75).toNat) hS0 (zr (k := 12) (t2 := 75) hG ha rfl) rfl (zlen hG (zr (k := 12) (t2 := 75) hG ha rfl) (n := 180) rfl rfl) (show 0 ≤ v75 by omega) (by omega) rfl
                            refine j_iald hx hG (zr (k := 12) (t2 := 75) hG ha rfl) (by decide) rfl (zlen hG (zr (k := 12) (t2 := 75) hG ha rfl) (n := 180) rfl rfl) (by omega) (by omega) (j := (v75).toNat) rfl (v := (s0 (gP G a 12) (v75).toNat)) (by rw [(zFr_g hF_s49 (zr (k := 12) (t2 := 75) hG ha rfl) (by decide)), e_s47, zU_at (Or.inl (zne (zr (k := 27) (t2 := 84) hG ha rfl) (zr (k := 12) (t2 := 75) hG ha rfl) (by decide))), e_s22, zU_at (Or.inl (zne (zr (k := 27) (t2 := 84) hG ha rfl) (zr (k := 12) (t2 := 75) hG ha rfl) (by decide))), e_s21, zU_at (Or.inl (zne (zr (k := 18) (t2 := 81) hG ha rfl) (zr (k := 12) (t2 := 75) hG ha rfl) (by decide))), (zFr_g hF_s16 (zr (k := 12) (t2 := 75) hG ha rfl) (by decide)), (zFr_g hF_s11 (zr (k := 12) (t2 := 75) hG ha rfl) (by decide)), (zFr_g hF_s5 (zr (k := 12) (t2 := 75) hG ha rfl) (by decide)), e_s3, zU_at (Or.inl (zne ha (zr (k := 12) (t2 := 75) hG ha rfl) (by decide))), e_s2, zU_at (Or.inl (zne ha (zr (k := 12) (t2 := 75) hG ha rfl) (by decide))), e_s1, zU_at (Or.inl (zne ha (zr (k := 12) (t2 := 75) hG ha rfl) (by decide)))]) dX12_sets_194 ?_
                            refine j_iast hx hG (zr (k := 19) (t2 := 82) hG ha rfl) (by decide) rfl (zlen hG (zr (k := 19) (t2 := 82) hG ha rfl) (n := 60) rfl rfl) (by omega) (by omega) (j := (v74).toNat) rfl dX12_sets_195 ?_
                            obtain ⟨s68, e_s68⟩ : ∃ z, z = zU s49 (gP G a 19) (v74).toNat ((s0 (gP G a 12) (v75).toNat)) := ⟨_, rfl⟩
                            rw [← e_s68]
                            have hS_s68 : zSK G s68 := by rw [e_s68]; exact zSK_A hS_s49 (zr (k := 19) (t2 := 82) hG ha rfl) rfl rfl rfl (by omega)
                            refine j_aload_n hx 0 dX12_sets_196 rfl ?_
                            refine g13_27 hx hG ha kf_RX12_56 dX12_sets_197 ?_
                            refine j_iconst hx dX12_sets_200 ?_
                            refine j_bipush hx dX12_sets_201 rfl ?_
                            refine j_iload_n hx 2 dX12_sets_203 rfl ?_
                            refine j_imul hx (r := 0) dX12_sets_204 (by omega) ?_
                            refine j_iadd hx (r := 0) dX12_sets_205 (by omega) ?_
                            refine j_iload_n hx 3 dX12_sets_206 rfl ?_
                            refine j_iadd hx (r := v75) dX12_sets_207 (by omega) ?_
                            refine j_iload_n hx 1 dX12_sets_208 rfl ?_
                            refine j_iast hx hG (zr (k := 27) (t2 := 84) hG ha rfl) (by decide) rfl (zlen hG (zr (k := 27) (t2 := 84) hG ha rfl) (n := 515) rfl rfl) (by omega) (by omega) (j := (v75).toNat) rfl dX12_sets_209 ?_
                            obtain ⟨s69, e_s69⟩ : ∃ z, z = zU s68 (gP G a 27) (v75).toNat v74 := ⟨_, rfl⟩
                            rw [← e_s69]
                            have hS_s69 : zSK G s69 := by rw [e_s69]; exact zSK_a hS_s68 (zr (k := 27) (t2 := 84) hG ha rfl) rfl rfl (congrArg some (axS_0 (v75).toNat (by omega))) (by omega)
                            have g115 : zc (s68 (gP G a 27)) = zc (s49 (gP G a 27)) := by rw [e_s68, zU_ne (zne (zr (k := 27) (t2 := 84) hG ha rfl) (zr (k := 19) (t2 := 82) hG ha rfl) (by decide))]
                            have z114 : zc (s69 (gP G a 27)) = zc (s68 (gP G a 27)) := by rw [e_s69]; exact zc_o (by omega)
                            refine j_aload_n hx 0 dX12_sets_210 rfl ?_
                            refine g13_27 hx hG ha kf_RX12_56 dX12_sets_211 ?_
                            refine j_sipush hx dX12_sets_214 rfl ?_
                            refine j_iload_n hx 1 dX12_sets_217 rfl ?_
                            refine j_iadd hx (r := v74 + 420) dX12_sets_218 (by omega) ?_
                            refine j_iload_n hx 3 dX12_sets_219 rfl ?_
                            refine j_aload_n hx 0 dX12_sets_220 rfl ?_
                            refine g13_14 hx hG ha kf_RX12_35 dX12_sets_221 ?_
                            refine j_iload_n hx 2 dX12_sets_224 rfl ?_
                            have f116 := zaI (j := 0) hS0 (zr (k := 14) (t2 := 77) hG ha rfl) rfl (zlen hG (zr (k := 14) (t2 := 77) hG ha rfl) (n := 3) rfl rfl) (show 0 ≤ 0 by omega) (by omega) rfl
                            refine j_iald hx hG (zr (k := 14) (t2 := 77) hG ha rfl) (by decide) rfl (zlen hG (zr (k := 14) (t2 := 77) hG ha rfl) (n := 3) rfl rfl) (by omega) (by omega) (j := 0) rfl (v := (s0 (gP G a 14) 0)) (by rw [e_s69, zU_at (Or.inl (zne (zr (k := 27) (t2 := 84) hG ha rfl) (zr (k := 14) (t2 := 77) hG ha rfl) (by decide))), e_s68, zU_at (Or.inl (zne (zr (k := 19) (t2 := 82) hG ha rfl) (zr (k := 14) (t2 := 77) hG ha rfl) (by decide))), (zFr_g hF_s49 (zr (k := 14) (t2 := 77) hG ha rfl) (by decide)), e_s47, zU_at (Or.inl (zne (zr (k := 27) (t2 := 84) hG ha rfl) (zr (k := 14) (t2 := 77) hG ha rfl) (by decide))), e_s22, zU_at (Or.inl (zne (zr (k := 27) (t2 := 84) hG ha rfl) (zr (k := 14) (t2 := 77) hG ha rfl) (by decide))), e_s21, zU_at (Or.inl (zne (zr (k := 18) (t2 := 81) hG ha rfl) (zr (k := 14) (t2 := 77) hG ha rfl) (by decide))), (zFr_g hF_s16 (zr (k := 14) (t2 := 77) hG ha rfl) (by decide)), (zFr_g hF_s11 (zr (k := 14) (t2 := 77) hG ha rfl) (by decide)), (zFr_g hF_s5 (zr (k := 14) (t2 := 77) hG ha rfl) (by decide)), e_s3, zU_at (Or.inl (zne ha (zr (k := 14) (t2 := 77) hG ha rfl) (by decide))), e_s2, zU_at (Or.inl (zne ha (zr (k := 14) (t2 := 77) hG ha rfl) (by decide))), e_s1, zU_at (Or.inl (zne ha (zr (k := 14) (t2 := 77) hG ha rfl) (by decide)))]) dX12_sets_225 ?_
                            refine j_icmp_ge hx 233 dX12_sets_226 rfl (by omega) (by omega) (fun h117 => ?_) (fun h117 => ?_)
                            · skip
                              refine j_iconst hx dX12_sets_233 ?_
                              refine j_iast hx hG (zr (k := 27) (t2 := 84) hG ha rfl) (by decide) rfl (zlen hG (zr (k := 27) (t2 := 84) hG ha rfl) (n := 515) rfl rfl) (by omega) (by omega) (j := (v74 + 420).toNat) rfl dX12_sets_234 ?_
                              obtain ⟨s70, e_s70⟩ : ∃ z, z = zU s69 (gP G a 27) (v74 + 420).toNat 0 := ⟨_, rfl⟩
                              rw [← e_s70]
                              have hS_s70 : zSK G s70 := by rw [e_s70]; exact zSK_a hS_s69 (zr (k := 27) (t2 := 84) hG ha rfl) rfl rfl (congrArg some (axS_1 (v74 + 420).toNat (by omega))) (by omega)
                              refine j_iinc hx 1 [(1, .int (zI (v74 + 1))), (0, .ref a), (2, .int (zI 0)), (3, .int (zI v75))] dX12_sets_235 rfl (by omega) (by decide) rfl ?_
                              refine j_iinc hx 3 [(3, .int (zI (v75 + 1))), (1, .int (zI (v74 + 1))), (0, .ref a), (2, .int (zI 0))] dX12_sets_238 rfl (by omega) (by decide) rfl ?_
                              refine j_goto hx 165 dX12_sets_241 rfl ?_
                              have g119 : s70 (gP G a 27) 481 = s49 (gP G a 27) 481 := (by rw [e_s70, zU_at (Or.inr (by omega)), e_s69, zU_at (Or.inr (by omega)), e_s68, zU_at (Or.inl (zne (zr (k := 19) (t2 := 82) hG ha rfl) (zr (k := 27) (t2 := 84) hG ha rfl) (by decide)))])
                              have g120 : s70 (gP G a 27) 482 = s49 (gP G a 27) 482 := (by rw [e_s70, zU_at (Or.inr (by omega)), e_s69, zU_at (Or.inr (by omega)), e_s68, zU_at (Or.inl (zne (zr (k := 19) (t2 := 82) hG ha rfl) (zr (k := 27) (t2 := 84) hG ha rfl) (by decide)))])
                              have g121 : s70 (gP G a 27) 483 = s49 (gP G a 27) 483 := (by rw [e_s70, zU_at (Or.inr (by omega)), e_s69, zU_at (Or.inr (by omega)), e_s68, zU_at (Or.inl (zne (zr (k := 19) (t2 := 82) hG ha rfl) (zr (k := 27) (t2 := 84) hG ha rfl) (by decide)))])
                              have g122 : s70 (gP G a 27) 484 = s49 (gP G a 27) 484 := (by rw [e_s70, zU_at (Or.inr (by omega)), e_s69, zU_at (Or.inr (by omega)), e_s68, zU_at (Or.inl (zne (zr (k := 19) (t2 := 82) hG ha rfl) (zr (k := 27) (t2 := 84) hG ha rfl) (by decide)))])
                              have g123 : s70 (gP G a 27) 485 = s49 (gP G a 27) 485 := (by rw [e_s70, zU_at (Or.inr (by omega)), e_s69, zU_at (Or.inr (by omega)), e_s68, zU_at (Or.inl (zne (zr (k := 19) (t2 := 82) hG ha rfl) (zr (k := 27) (t2 := 84) hG ha rfl) (by decide)))])
                              have g124 : s70 (gP G a 27) 486 = s49 (gP G a 27) 486 := (by rw [e_s70, zU_at (Or.inr (by omega)), e_s69, zU_at (Or.inr (by omega)), e_s68, zU_at (Or.inl (zne (zr (k := 19) (t2 := 82) hG ha rfl) (zr (k := 27) (t2 := 84) hG ha rfl) (by decide)))])
                              have g125 : s70 (gP G a 27) 488 = s49 (gP G a 27) 488 := (by rw [e_s70, zU_at (Or.inr (by omega)), e_s69, zU_at (Or.inr (by omega)), e_s68, zU_at (Or.inl (zne (zr (k := 19) (t2 := 82) hG ha rfl) (zr (k := 27) (t2 := 84) hG ha rfl) (by decide)))])
                              exact j_sub [2, 1, 3, 0] [(0, .ref a), (1, .int (zI (v74 + 1))), (2, .int (zI 0)), (3, .int (zI (v75 + 1)))] rfl (ih_c165_48 (v74 + 1) (v75 + 1) s70 (by omega) (by omega) (by omega) hS_s70 (zFr_u (zFr_u (zFr_u (zFr_t zFr_rf hF_s49 (by decide)) e_s68 (zr (k := 19) (t2 := 82) hG ha rfl) (by decide)) e_s69 (zr (k := 27) (t2 := 84) hG ha rfl) (by decide)) e_s70 (zr (k := 27) (t2 := 84) hG ha rfl) (by decide)) (by omega) (by omega) (by omega) (by omega) (by omega) (by omega) (by omega) (by omega) (by omega) (by omega))
                            · skip
                              refine j_iconst hx dX12_sets_229 ?_
                              refine j_goto hx 234 dX12_sets_230 rfl ?_
                              refine j_iast hx hG (zr (k := 27) (t2 := 84) hG ha rfl) (by decide) rfl (zlen hG (zr (k := 27) (t2 := 84) hG ha rfl) (n := 515) rfl rfl) (by omega) (by omega) (j := (v74 + 420).toNat) rfl dX12_sets_234 ?_
                              obtain ⟨s71, e_s71⟩ : ∃ z, z = zU s69 (gP G a 27) (v74 + 420).toNat 1 := ⟨_, rfl⟩
                              rw [← e_s71]
                              have hS_s71 : zSK G s71 := by rw [e_s71]; exact zSK_a hS_s69 (zr (k := 27) (t2 := 84) hG ha rfl) rfl rfl (congrArg some (axS_1 (v74 + 420).toNat (by omega))) (by omega)
                              refine j_iinc hx 1 [(1, .int (zI (v74 + 1))), (0, .ref a), (2, .int (zI 0)), (3, .int (zI v75))] dX12_sets_235 rfl (by omega) (by decide) rfl ?_
                              refine j_iinc hx 3 [(3, .int (zI (v75 + 1))), (1, .int (zI (v74 + 1))), (0, .ref a), (2, .int (zI 0))] dX12_sets_238 rfl (by omega) (by decide) rfl ?_
                              refine j_goto hx 165 dX12_sets_241 rfl ?_
                              have g127 : s71 (gP G a 27) 481 = s49 (gP G a 27) 481 := (by rw [e_s71, zU_at (Or.inr (by omega)), e_s69, zU_at (Or.inr (by omega)), e_s68, zU_at (Or.inl (zne (zr (k := 19) (t2 := 82) hG ha rfl) (zr (k := 27) (t2 := 84) hG ha rfl) (by decide)))])
                              have g128 : s71 (gP G a 27) 482 = s49 (gP G a 27) 482 := (by rw [e_s71, zU_at (Or.inr (by omega)), e_s69, zU_at (Or.inr (by omega)), e_s68, zU_at (Or.inl (zne (zr (k := 19) (t2 := 82) hG ha rfl) (zr (k := 27) (t2 := 84) hG ha rfl) (by decide)))])
                              have g129 : s71 (gP G a 27) 483 = s49 (gP G a 27) 483 := (by rw [e_s71, zU_at (Or.inr (by omega)), e_s69, zU_at (Or.inr (by omega)), e_s68, zU_at (Or.inl (zne (zr (k := 19) (t2 := 82) hG ha rfl) (zr (k := 27) (t2 := 84) hG ha rfl) (by decide)))])
                              have g130 : s71 (gP G a 27) 484 = s49 (gP G a 27) 484 := (by rw [e_s71, zU_at (Or.inr (by omega)), e_s69, zU_at (Or.inr (by omega)), e_s68, zU_at (Or.inl (zne (zr (k := 19) (t2 := 82) hG ha rfl) (zr (k := 27) (t2 := 84) hG ha rfl) (by decide)))])
                              have g131 : s71 (gP G a 27) 485 = s49 (gP G a 27) 485 := (by rw [e_s71, zU_at (Or.inr (by omega)), e_s69, zU_at (Or.inr (by omega)), e_s68, zU_at (Or.inl (zne (zr (k := 19) (t2 := 82) hG ha rfl) (zr (k := 27) (t2 := 84) hG ha rfl) (by decide)))])
                              have g132 : s71 (gP G a 27) 486 = s49 (gP G a 27) 486 := (by rw [e_s71, zU_at (Or.inr (by omega)), e_s69, zU_at (Or.inr (by omega)), e_s68, zU_at (Or.inl (zne (zr (k := 19) (t2 := 82) hG ha rfl) (zr (k := 27) (t2 := 84) hG ha rfl) (by decide)))])
                              have g133 : s71 (gP G a 27) 488 = s49 (gP G a 27) 488 := (by rw [e_s71, zU_at (Or.inr (by omega)), e_s69, zU_at (Or.inr (by omega)), e_s68, zU_at (Or.inl (zne (zr (k := 19) (t2 := 82) hG ha rfl) (zr (k := 27) (t2 := 84) hG ha rfl) (by decide)))])
                              exact j_sub [2, 1, 3, 0] [(0, .ref a), (1, .int (zI (v74 + 1))), (2, .int (zI 0)), (3, .int (zI (v75 + 1)))] rfl (ih_c165_48 (v74 + 1) (v75 + 1) s71 (by omega) (by omega) (by omega) hS_s71 (zFr_u (zFr_u (zFr_u (zFr_t zFr_rf hF_s49 (by decide)) e_s68 (zr (k := 19) (t2 := 82) hG ha rfl) (by decide)) e_s69 (zr (k := 27) (t2 := 84) hG ha rfl) (by decide)) e_s71 (zr (k := 27) (t2 := 84) hG ha rfl) (by decide)) (by omega) (by omega) (by omega) (by omega) (by omega) (by omega) (by omega) (by omega) (by omega) (by omega))
                      exact j_sub [3, 2, 1, 0] [(0, .ref a), (1, .int (zI 0)), (2, .int (zI 0)), (3, .int (zI 0))] rfl (c165_48 (2147483648 * 4) 0 0 s47 (by omega) (by omega) (by omega) hS_s47 zFr_rf (by omega) (by omega) (by omega) (by omega) (by omega) (by omega) (by omega) (by omega) (by omega) (by omega))
                  · skip
                    refine j_aload_n hx 0 dX12_sets_85 rfl ?_
                    refine g13_27 hx hG ha kf_RX12_56 dX12_sets_86 ?_
                    refine j_iload_n hx 1 dX12_sets_89 rfl ?_
                    refine j_iconst hx dX12_sets_90 ?_
                    refine j_iast hx hG (zr (k := 27) (t2 := 84) hG ha rfl) (by decide) rfl (zlen hG (zr (k := 27) (t2 := 84) hG ha rfl) (n := 515) rfl rfl) (by omega) (by omega) (j := (v9).toNat) rfl dX12_sets_91 ?_
                    obtain ⟨s72, e_s72⟩ : ∃ z, z = zU s16 (gP G a 27) (v9).toNat 0 := ⟨_, rfl⟩
                    rw [← e_s72]
                    have hS_s72 : zSK G s72 := by rw [e_s72]; exact zSK_z hS_s16 (zr (k := 27) (t2 := 84) hG ha rfl) (fun _ => rfl) rfl (fun k => ⟨_, rfl, (axS_h _).2.2.1, (axS_h _).2.2.2⟩) (by omega)
                    refine j_iinc hx 1 [(1, .int (zI (v9 + 1))), (0, .ref a)] dX12_sets_92 rfl (by omega) (by decide) rfl ?_
                    refine j_goto hx 78 dX12_sets_95 rfl ?_
                    exact j_sub [1, 0] [(0, .ref a), (1, .int (zI (v9 + 1)))] rfl (ih_c78_15 (v9 + 1) s72 (by omega) (by omega) hS_s72 (zFr_u (zFr_t zFr_rf hF_s16 (by decide)) e_s72 (zr (k := 27) (t2 := 84) hG ha rfl) (by decide)) (zAll_s hB1 e_s72 (by omega)))
              have g135 : s11 (gP G a 27) (0).toNat = s0 (gP G a 27) (0).toNat := (by rw [(zFr_g hF_s11 (zr (k := 27) (t2 := 84) hG ha rfl) (by decide)), (zFr_g hF_s5 (zr (k := 27) (t2 := 84) hG ha rfl) (by decide)), e_s3, zU_at (Or.inl (zne ha (zr (k := 27) (t2 := 84) hG ha rfl) (by decide))), e_s2, zU_at (Or.inl (zne ha (zr (k := 27) (t2 := 84) hG ha rfl) (by decide))), e_s1, zU_at (Or.inl (zne ha (zr (k := 27) (t2 := 84) hG ha rfl) (by decide)))])
              exact j_sub [1, 0] [(0, .ref a), (1, .int (zI 0))] rfl (c78_15 (2147483648 * 4) 0 s11 (by omega) (by omega) hS_s11 zFr_rf (fun j hj => absurd hj (by omega)))
            · skip
              refine j_aload_n hx 0 dX12_sets_58 rfl ?_
              refine g13_20 hx hG ha kf_RX12_53 dX12_sets_59 ?_
              refine j_iload_n hx 1 dX12_sets_62 rfl ?_
              refine j_aload_n hx 0 dX12_sets_63 rfl ?_
              refine g13_16 hx hG ha kf_RX12_41 dX12_sets_64 ?_
              refine j_iload_n hx 1 dX12_sets_67 rfl ?_
              have f136 := zaI (j := (v7).toNat) hS0 (zr (k := 16) (t2 := 79) hG ha rfl) rfl (zlen hG (zr (k := 16) (t2 := 79) hG ha rfl) (n := 12) rfl rfl) (show 0 ≤ v7 by omega) (by omega) rfl
              refine j_iald hx hG (zr (k := 16) (t2 := 79) hG ha rfl) (by decide) rfl (zlen hG (zr (k := 16) (t2 := 79) hG ha rfl) (n := 12) rfl rfl) (by omega) (by omega) (j := (v7).toNat) rfl (v := (s0 (gP G a 16) (v7).toNat)) (by rw [(zFr_g hF_s11 (zr (k := 16) (t2 := 79) hG ha rfl) (by decide)), (zFr_g hF_s5 (zr (k := 16) (t2 := 79) hG ha rfl) (by decide)), e_s3, zU_at (Or.inl (zne ha (zr (k := 16) (t2 := 79) hG ha rfl) (by decide))), e_s2, zU_at (Or.inl (zne ha (zr (k := 16) (t2 := 79) hG ha rfl) (by decide))), e_s1, zU_at (Or.inl (zne ha (zr (k := 16) (t2 := 79) hG ha rfl) (by decide)))]) dX12_sets_68 ?_
              refine j_iast hx hG (zr (k := 20) (t2 := 83) hG ha rfl) (by decide) rfl (zlen hG (zr (k := 20) (t2 := 83) hG ha rfl) (n := 12) rfl rfl) (by omega) (by omega) (j := (v7).toNat) rfl dX12_sets_69 ?_
              obtain ⟨s73, e_s73⟩ : ∃ z, z = zU s11 (gP G a 20) (v7).toNat ((s0 (gP G a 16) (v7).toNat)) := ⟨_, rfl⟩
              rw [← e_s73]
              have hS_s73 : zSK G s73 := by rw [e_s73]; exact zSK_A hS_s11 (zr (k := 20) (t2 := 83) hG ha rfl) rfl rfl rfl (by omega)
              refine j_iinc hx 1 [(1, .int (zI (v7 + 1))), (0, .ref a)] dX12_sets_70 rfl (by omega) (by decide) rfl ?_
              refine j_goto hx 52 dX12_sets_73 rfl ?_
              exact j_sub [1, 0] [(0, .ref a), (1, .int (zI (v7 + 1)))] rfl (ih_c52_10 (v7 + 1) s73 (by omega) (by omega) hS_s73 (zFr_u (zFr_t zFr_rf hF_s11 (by decide)) e_s73 (zr (k := 20) (t2 := 83) hG ha rfl) (by decide)))
        exact j_sub [1, 0] [(0, .ref a), (1, .int (zI 0))] rfl (c52_10 (2147483648 * 4) 0 s5 (by omega) (by omega) hS_s5 zFr_rf)
      · skip
        refine j_aload_n hx 0 dX12_sets_32 rfl ?_
        refine g13_17 hx hG ha kf_RX12_44 dX12_sets_33 ?_
        refine j_iload_n hx 1 dX12_sets_36 rfl ?_
        refine j_aload_n hx 0 dX12_sets_37 rfl ?_
        refine g13_10 hx hG ha kf_RX12_23 dX12_sets_38 ?_
        refine j_iload_n hx 1 dX12_sets_41 rfl ?_
        have f137 := zaI (j := (v4).toNat) hS0 (zr (k := 10) (t2 := 73) hG ha rfl) rfl (zlen hG (zr (k := 10) (t2 := 73) hG ha rfl) (n := 12) rfl rfl) (show 0 ≤ v4 by omega) (by omega) rfl
        refine j_iald hx hG (zr (k := 10) (t2 := 73) hG ha rfl) (by decide) rfl (zlen hG (zr (k := 10) (t2 := 73) hG ha rfl) (n := 12) rfl rfl) (by omega) (by omega) (j := (v4).toNat) rfl (v := (s0 (gP G a 10) (v4).toNat)) (by rw [(zFr_g hF_s5 (zr (k := 10) (t2 := 73) hG ha rfl) (by decide)), e_s3, zU_at (Or.inl (zne ha (zr (k := 10) (t2 := 73) hG ha rfl) (by decide))), e_s2, zU_at (Or.inl (zne ha (zr (k := 10) (t2 := 73) hG ha rfl) (by decide))), e_s1, zU_at (Or.inl (zne ha (zr (k := 10) (t2 := 73) hG ha rfl) (by decide)))]) dX12_sets_42 ?_
        refine j_iast hx hG (zr (k := 17) (t2 := 80) hG ha rfl) (by decide) rfl (zlen hG (zr (k := 17) (t2 := 80) hG ha rfl) (n := 12) rfl rfl) (by omega) (by omega) (j := (v4).toNat) rfl dX12_sets_43 ?_
        obtain ⟨s74, e_s74⟩ : ∃ z, z = zU s5 (gP G a 17) (v4).toNat ((s0 (gP G a 10) (v4).toNat)) := ⟨_, rfl⟩
        rw [← e_s74]
        have hS_s74 : zSK G s74 := by rw [e_s74]; exact zSK_A hS_s5 (zr (k := 17) (t2 := 80) hG ha rfl) rfl rfl rfl (by omega)
        refine j_iinc hx 1 [(1, .int (zI (v4 + 1))), (0, .ref a)] dX12_sets_44 rfl (by omega) (by decide) rfl ?_
        refine j_goto hx 26 dX12_sets_47 rfl ?_
        exact j_sub [1, 0] [(0, .ref a), (1, .int (zI (v4 + 1)))] rfl (ih_c26_4 (v4 + 1) s74 (by omega) (by omega) hS_s74 (zFr_u (zFr_t zFr_rf hF_s5 (by decide)) e_s74 (zr (k := 17) (t2 := 80) hG ha rfl) (by decide)) (zEq_s hE1 e_s74 (by omega) rfl))
  exact j_sub [1, 0] [(0, .ref a), (1, .int (zI 0))] rfl (c26_4 (2147483648 * 4) 0 s3 (by omega) (by omega) hS_s3 zFr_rf (zEq_0 (by omega)))

set_option maxHeartbeats 4000000 in
set_option maxRecDepth 20000 in
theorem c_X12_may_f {E : zE} {l : Launch} (hst : l.stackTraces = false) (a : Nat) (x1 : Int) (x2 : Int) (x3 : Int) : Con E l yX12_may cX12_may 4 (some .boolean) { frames := 0, cells := 0, slots := 0, locals := 0 } (fun G s vs => vs = [.ref a, .int (zI x1), .int (zI x2), .int (zI x3)] ∧ zGK G ∧ zSK G s ∧ (gT G a = 13) ∧ (0 ≤ x1 ∧ x1 ≤ 0) ∧ (1 ≤ x2 ∧ x2 ≤ 2) ∧ (0 ≤ x3 ∧ x3 ≤ 1) ∧ (s a 0 = 0)) (fun G s _ => pI (fun r G2 s2 => G2 = G ∧ zSK G s2 ∧ zFr [13, 71] G s s2 ∧ (0 ≤ r ∧ r ≤ 0) ∧ s2 a 0 = x2 ∧ s2 a 3 = s a 3 ∧ s2 a 4 = s a 4 ∧ s2 a 5 = s a 5 ∧ s2 a 7 = s a 7 ∧ s2 a 21 = s a 21 ∧ s2 a 22 = s a 22 ∧ s2 a 23 = s a 23 ∧ s2 a 24 = s a 24 ∧ s2 a 38 = s a 38 ∧ s2 a 51 = s a 51 ∧ s2 a 52 = s a 52)) := by
  refine Con.mk hst (by decide) (fun G s vs h => by rw [h.1]; exact Nat.le_of_ble_eq_true rfl) ?_
  rintro X G s0 vs ⟨rfl, hG, hS0, ha, hx1, hx2, hx3, e0⟩ rfl hx hq
  show JJ X E 4 G s0 0 0 [(0, .ref a), (1, .int (zI x1)), (2, .int (zI x2)), (3, .int (zI x3))] 0 []
  refine j_iload_n hx 1 dX12_may_0 rfl ?_
  refine j_if_ne hx 26 dX12_may_1 rfl (by omega) (fun h1 => absurd h1 (by omega)) (fun h1 => ?_)
  refine j_aload_n hx 0 dX12_may_4 rfl ?_
  refine g13_0 hx hG ha kf_RX12_3 rfl dX12_may_5 ?_
  refine j_if_ne hx 26 dX12_may_8 rfl (by omega) (fun h2 => absurd h2 (by omega)) (fun h2 => ?_)
  refine j_aload_n hx 0 dX12_may_11 rfl ?_
  refine j_iload_n hx 2 dX12_may_12 rfl ?_
  refine p13_0 hx hG ha kf_RX12_3 dX12_may_13 ?_
  obtain ⟨s1, e_s1⟩ : ∃ z, z = zU s0 a 0 x2 := ⟨_, rfl⟩
  rw [← e_s1]
  have hS_s1 : zSK G s1 := by rw [e_s1]; exact zSK_F hS0 ha rfl rfl rfl (by omega)
  refine j_aload_n hx 0 dX12_may_16 rfl ?_
  refine g13_1 hx hG ha kf_RX12_7 dX12_may_17 ?_
  refine j_iload_n hx 3 dX12_may_20 rfl ?_
  refine j_dup2 hx dX12_may_21 rfl rfl ?_
  have f3 := zaI (j := (x3).toNat) hS0 (zr (k := 1) (t2 := 71) hG ha rfl) rfl (zlen hG (zr (k := 1) (t2 := 71) hG ha rfl) (n := 2) rfl rfl) (show 0 ≤ x3 by omega) (by omega) rfl
  refine j_iald hx hG (zr (k := 1) (t2 := 71) hG ha rfl) (by decide) rfl (zlen hG (zr (k := 1) (t2 := 71) hG ha rfl) (n := 2) rfl rfl) (by omega) (by omega) (j := (x3).toNat) rfl (v := (s0 (gP G a 1) (x3).toNat)) (by rw [e_s1, zU_at (Or.inl (zne ha (zr (k := 1) (t2 := 71) hG ha rfl) (by decide)))]) dX12_may_22 ?_
  refine j_iconst hx dX12_may_23 ?_
  refine j_iadd hx (r := (s0 (gP G a 1) (x3).toNat) + 1) dX12_may_24 (by omega) ?_
  refine j_norm (fun v4 f5 f6 f7 => ?_)
  refine j_iast hx hG (zr (k := 1) (t2 := 71) hG ha rfl) (by decide) rfl (zlen hG (zr (k := 1) (t2 := 71) hG ha rfl) (n := 2) rfl rfl) (by omega) (by omega) (j := (x3).toNat) rfl dX12_may_25 ?_
  obtain ⟨s2, e_s2⟩ : ∃ z, z = zU s1 (gP G a 1) (x3).toNat v4 := ⟨_, rfl⟩
  rw [← e_s2]
  have hS_s2 : zSK G s2 := by rw [e_s2]; exact zSK_A hS_s1 (zr (k := 1) (t2 := 71) hG ha rfl) rfl rfl rfl (by omega)
  refine j_aload_n hx 0 dX12_may_26 rfl ?_
  refine g13_0 hx hG ha kf_RX12_3 (v := x2) (by rw [e_s2, zU_at (Or.inl (zne (zr (k := 1) (t2 := 71) hG ha rfl) ha (by decide))), e_s1, zU_eq]) dX12_may_27 ?_
  refine j_if_ne hx 37 dX12_may_30 rfl (by omega) (fun h8 => ?_) (fun h8 => absurd h8 (by omega))
  refine j_iconst hx dX12_may_37 ?_
  have g9 : s2 a 0 = x2 := (by rw [e_s2, zU_at (Or.inl (zne (zr (k := 1) (t2 := 71) hG ha rfl) ha (by decide))), e_s1, zU_eq])
  have g10 : s2 a 3 = s0 a 3 := (by rw [e_s2, zU_at (Or.inl (zne (zr (k := 1) (t2 := 71) hG ha rfl) ha (by decide))), e_s1, zU_at (Or.inr (by decide))])
  have f11 := zf hS0 ha (k := 3) rfl
  have g12 : s2 a 4 = s0 a 4 := (by rw [e_s2, zU_at (Or.inl (zne (zr (k := 1) (t2 := 71) hG ha rfl) ha (by decide))), e_s1, zU_at (Or.inr (by decide))])
  have f13 := zf hS0 ha (k := 4) rfl
  have g14 : s2 a 5 = s0 a 5 := (by rw [e_s2, zU_at (Or.inl (zne (zr (k := 1) (t2 := 71) hG ha rfl) ha (by decide))), e_s1, zU_at (Or.inr (by decide))])
  have f15 := zf hS0 ha (k := 5) rfl
  have g16 : s2 a 7 = s0 a 7 := (by rw [e_s2, zU_at (Or.inl (zne (zr (k := 1) (t2 := 71) hG ha rfl) ha (by decide))), e_s1, zU_at (Or.inr (by decide))])
  have f17 := zf hS0 ha (k := 7) rfl
  have g18 : s2 a 21 = s0 a 21 := (by rw [e_s2, zU_at (Or.inl (zne (zr (k := 1) (t2 := 71) hG ha rfl) ha (by decide))), e_s1, zU_at (Or.inr (by decide))])
  have f19 := zf hS0 ha (k := 21) rfl
  have g20 : s2 a 22 = s0 a 22 := (by rw [e_s2, zU_at (Or.inl (zne (zr (k := 1) (t2 := 71) hG ha rfl) ha (by decide))), e_s1, zU_at (Or.inr (by decide))])
  have f21 := zf hS0 ha (k := 22) rfl
  have g22 : s2 a 23 = s0 a 23 := (by rw [e_s2, zU_at (Or.inl (zne (zr (k := 1) (t2 := 71) hG ha rfl) ha (by decide))), e_s1, zU_at (Or.inr (by decide))])
  have f23 := zf hS0 ha (k := 23) rfl
  have g24 : s2 a 24 = s0 a 24 := (by rw [e_s2, zU_at (Or.inl (zne (zr (k := 1) (t2 := 71) hG ha rfl) ha (by decide))), e_s1, zU_at (Or.inr (by decide))])
  have f25 := zf hS0 ha (k := 24) rfl
  have g26 : s2 a 38 = s0 a 38 := (by rw [e_s2, zU_at (Or.inl (zne (zr (k := 1) (t2 := 71) hG ha rfl) ha (by decide))), e_s1, zU_at (Or.inr (by decide))])
  have f27 := zf hS0 ha (k := 38) rfl
  have g28 : s2 a 51 = s0 a 51 := (by rw [e_s2, zU_at (Or.inl (zne (zr (k := 1) (t2 := 71) hG ha rfl) ha (by decide))), e_s1, zU_at (Or.inr (by decide))])
  have f29 := zf hS0 ha (k := 51) rfl
  have g30 : s2 a 52 = s0 a 52 := (by rw [e_s2, zU_at (Or.inl (zne (zr (k := 1) (t2 := 71) hG ha rfl) ha (by decide))), e_s1, zU_at (Or.inr (by decide))])
  have f31 := zf hS0 ha (k := 52) rfl
  exact j_zret hx hq rfl (by decide) (by decide) dX12_may_38 (by omega) ⟨0, rfl, rfl, hS_s2, (zFr_u (zFr_u zFr_rf e_s1 ha (by decide)) e_s2 (zr (k := 1) (t2 := 71) hG ha rfl) (by decide)), ⟨(by omega), by omega, by omega, by omega, by omega, by omega, by omega, by omega, by omega, by omega, by omega, by omega, by omega⟩⟩

set_option maxHeartbeats 4000000 in
set_option maxRecDepth 20000 in
theorem c_X12_may_t {E : zE} {l : Launch} (hst : l.stackTraces = false) (a : Nat) (x1 : Int) (x2 : Int) (x3 : Int) : Con E l yX12_may cX12_may 4 (some .boolean) { frames := 0, cells := 0, slots := 0, locals := 0 } (fun G s vs => vs = [.ref a, .int (zI x1), .int (zI x2), .int (zI x3)] ∧ zGK G ∧ zSK G s ∧ (gT G a = 13) ∧ (1 ≤ x1 ∧ x1 ≤ 1) ∧ (1 ≤ x2 ∧ x2 ≤ 2) ∧ (0 ≤ x3 ∧ x3 ≤ 1) ∧ (s a 0 = 0)) (fun G s _ => pI (fun r G2 s2 => G2 = G ∧ s2 = s ∧ (1 ≤ r ∧ r ≤ 1))) := by
  refine Con.mk hst (by decide) (fun G s vs h => by rw [h.1]; exact Nat.le_of_ble_eq_true rfl) ?_
  rintro X G s0 vs ⟨rfl, hG, hS0, ha, hx1, hx2, hx3, e0⟩ rfl hx hq
  show JJ X E 4 G s0 0 0 [(0, .ref a), (1, .int (zI x1)), (2, .int (zI x2)), (3, .int (zI x3))] 0 []
  refine j_iload_n hx 1 dX12_may_0 rfl ?_
  refine j_if_ne hx 26 dX12_may_1 rfl (by omega) (fun h1 => ?_) (fun h1 => absurd h1 (by omega))
  refine j_aload_n hx 0 dX12_may_26 rfl ?_
  refine g13_0 hx hG ha kf_RX12_3 rfl dX12_may_27 ?_
  refine j_if_ne hx 37 dX12_may_30 rfl (by omega) (fun h2 => absurd h2 (by omega)) (fun h2 => ?_)
  refine j_iconst hx dX12_may_33 ?_
  refine j_goto hx 38 dX12_may_34 rfl ?_
  exact j_zret hx hq rfl (by decide) (by decide) dX12_may_38 (by omega) ⟨1, rfl, rfl, rfl, (by omega)⟩
