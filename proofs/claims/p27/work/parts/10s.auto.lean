theorem lk_RX12_391 : LkV RX12 391 RX12 yX12_falls cX12_falls 4 none 1 := ⟨km_RX12_391, ki_yX12_falls, ks_RX12_yX12_falls, kn_RX12, kc_yX12_falls, rfl, by decide +kernel, by decide +kernel, by decide +kernel⟩
theorem lk_RX12_394 : LkV RX12 394 RX12 yX12_wins cX12_wins 6 (some .int) 2 := ⟨km_RX12_394, ki_yX12_wins, ks_RX12_yX12_wins, kn_RX12, kc_yX12_wins, rfl, by decide +kernel, by decide +kernel, by decide +kernel⟩
set_option maxHeartbeats 4000000 in
set_option maxRecDepth 20000 in
theorem c_X12_judges {E : zE} {l : Launch} (hst : l.stackTraces = false) (a : Nat) : Con E l yX12_judges cX12_judges 6 none { frames := 4, cells := 0, slots := 0, locals := 95 } (fun G s vs => vs = [.ref a] ∧ zGK G ∧ zSK G s ∧ (gT G a = 13) ∧ (zc (s (gP G a 27)) ≤ 60)) (fun G s _ => pV (fun G2 s2 => G2 = G ∧ zSK G s2 ∧ zFr [84, 87] G s s2 ∧ zc (s2 (gP G a 27)) = zc (s (gP G a 27)) ∧ s2 (gP G a 27) 488 = s (gP G a 27) 488)) := by
  refine Con.mk hst (by decide) (fun G s vs h => by rw [h.1]; exact Nat.le_of_ble_eq_true rfl) ?_
  rintro X G s0 vs ⟨rfl, hG, hS0, ha, e0⟩ rfl hx hq
  show JJ X E 6 G s0 0 0 [(0, .ref a)] 0 []
  refine j_iconst hx dX12_judges_0 ?_
  refine j_istore_n hx [(1, .int (zI (-1))), (0, .ref a)] dX12_judges_1 (by decide) rfl ?_
  refine j_iconst hx dX12_judges_2 ?_
  refine j_istore_n hx [(2, .int (zI 0)), (1, .int (zI (-1))), (0, .ref a)] dX12_judges_3 (by decide) rfl ?_
  refine j_iconst hx dX12_judges_4 ?_
  refine j_istore_n hx [(3, .int (zI 0)), (2, .int (zI 0)), (1, .int (zI (-1))), (0, .ref a)] dX12_judges_5 (by decide) rfl ?_
  refine j_iconst hx dX12_judges_6 ?_
  refine j_istore hx [(4, .int (zI 0)), (3, .int (zI 0)), (2, .int (zI 0)), (1, .int (zI (-1))), (0, .ref a)] dX12_judges_7 (by decide) rfl ?_
  have c9_1 : ∀ (m_c9_1 : Nat) (v1 : Int) (v2 : Int) (v3 : Int) (v4 : Int), 2147483648 - v4 < m_c9_1 → ((-1) ≤ v1 ∧ v1 ≤ 2) → ((-2147483648) ≤ v2 ∧ v2 ≤ 2147483647) → ((-2147483648) ≤ v3 ∧ v3 ≤ 2147483647) → (0 ≤ v4 ∧ v4 ≤ 3) → JJ X E 6 G s0 0 0 [(0, .ref a), (1, .int (zI v1)), (2, .int (zI v2)), (3, .int (zI v3)), (4, .int (zI v4))] 9 [] := by
    intro m_c9_1
    induction m_c9_1 with
    | zero => intro v1 v2 v3 v4 hm_c9_1 fA2 fA3 fA4 fA5; exfalso; omega
    | succ m_c9_1 ih_c9_1 => 
      intro v1 v2 v3 v4 hm_c9_1 fA2 fA3 fA4 fA5
      refine j_iload hx 4 dX12_judges_9 rfl ?_
      refine j_aload_n hx 0 dX12_judges_11 rfl ?_
      have f5 := zf hS0 ha (k := 24) rfl
      refine g13_24 hx hG ha kf_RX12_189 rfl dX12_judges_12 ?_
      refine j_icmp_ge hx 92 dX12_judges_15 rfl (by omega) (by omega) (fun h6 => ?_) (fun h6 => ?_)
      · skip
        refine j_iconst hx dX12_judges_92 ?_
        refine j_istore hx [(4, .int (zI 0)), (0, .ref a), (1, .int (zI v1)), (2, .int (zI v2)), (3, .int (zI v3))] dX12_judges_93 (by decide) rfl ?_
        have c95_6 : ∀ (m_c95_6 : Nat) (v7 : Int) (s7 : zS), 2147483648 - v7 < m_c95_6 → (0 ≤ v7 ∧ v7 ≤ 5) → (zSK G s7) → (zFr [87] G s0 s7) → JJ X E 6 G s7 0 0 [(0, .ref a), (1, .int (zI v1)), (2, .int (zI v2)), (3, .int (zI v3)), (4, .int (zI v7))] 95 [] := by
          intro m_c95_6
          induction m_c95_6 with
          | zero => intro v7 s7 hm_c95_6 fA8 hS_s7 hF_s7; exfalso; omega
          | succ m_c95_6 ih_c95_6 => 
            intro v7 s7 hm_c95_6 fA8 hS_s7 hF_s7
            refine j_iload hx 4 dX12_judges_95 rfl ?_
            refine j_iconst hx dX12_judges_97 ?_
            refine j_icmp_ge hx 125 dX12_judges_98 rfl (by omega) ⟨by decide, by decide⟩ (fun h8 => ?_) (fun h8 => ?_)
            · skip
              refine j_aload_n hx 0 dX12_judges_125 rfl ?_
              refine g13_30 hx hG ha kf_RX12_65 dX12_judges_126 ?_
              refine j_iconst hx dX12_judges_129 ?_
              refine j_iload_n hx 2 dX12_judges_130 rfl ?_
              refine j_iast hx hG (zr (k := 30) (t2 := 87) hG ha rfl) (by decide) rfl (zlen hG (zr (k := 30) (t2 := 87) hG ha rfl) (n := 5) rfl rfl) (by omega) (by omega) (j := 3) rfl dX12_judges_131 ?_
              obtain ⟨s11, e_s11⟩ : ∃ z, z = zU s7 (gP G a 30) 3 v2 := ⟨_, rfl⟩
              rw [← e_s11]
              have hS_s11 : zSK G s11 := by rw [e_s11]; exact zSK_A hS_s7 (zr (k := 30) (t2 := 87) hG ha rfl) rfl rfl rfl (by omega)
              refine j_iload_n hx 1 dX12_judges_132 rfl ?_
              refine j_iconst hx dX12_judges_133 ?_
              refine j_icmp_ne hx 138 dX12_judges_134 rfl (by omega) ⟨by decide, by decide⟩ (fun h9 => ?_) (fun h9 => ?_)
              · skip
                refine j_aload_n hx 0 dX12_judges_138 rfl ?_
                refine j_callV hx hG (c_X12_alikes hst a) lk_RX12_343 ha (by decide) rfl rfl rfl rfl [] ⟨rfl, hG, hS_s11, ha⟩ rfl rfl ⟨by decide, by decide⟩ ⟨by decide, by decide⟩ (k2 := 0) (n2 := 0) rfl rfl (Nat.le_of_ble_eq_true rfl) dX12_judges_139 (kIP (fun v10 q11 => ?_))
                refine j_istore hx [(4, .int (zI v10)), (0, .ref a), (1, .int (zI v1)), (2, .int (zI v2)), (3, .int (zI v3))] dX12_judges_142 (by decide) rfl ?_
                rcases (show v10 = (-1) ∨ v10 = 1 ∨ v10 = 2 ∨ v10 = 12 by omega) with rfl | rfl | rfl | rfl
                · skip
                  refine j_iload_n hx 4 dX12_judges_144 rfl ?_
                  refine j_iconst hx dX12_judges_145 ?_
                  have c250_12 : JJ X E 6 G s11 0 0 [(0, .ref a), (1, .int (zI v1)), (4, .int (zI (-1)))] 250 [] := by
                    refine j_aload_n hx 0 dX12_judges_250 rfl ?_
                    refine g13_30 hx hG ha kf_RX12_65 dX12_judges_251 ?_
                    refine j_iconst hx dX12_judges_254 ?_
                    refine j_iload_n hx 1 dX12_judges_255 rfl ?_
                    refine j_iast hx hG (zr (k := 30) (t2 := 87) hG ha rfl) (by decide) rfl (zlen hG (zr (k := 30) (t2 := 87) hG ha rfl) (n := 5) rfl rfl) (by omega) (by omega) (j := 1) rfl dX12_judges_256 ?_
                    obtain ⟨s13, e_s13⟩ : ∃ z, z = zU s11 (gP G a 30) 1 v1 := ⟨_, rfl⟩
                    rw [← e_s13]
                    have hS_s13 : zSK G s13 := by rw [e_s13]; exact zSK_A hS_s11 (zr (k := 30) (t2 := 87) hG ha rfl) rfl rfl rfl (by omega)
                    refine j_aload_n hx 0 dX12_judges_257 rfl ?_
                    refine g13_30 hx hG ha kf_RX12_65 dX12_judges_258 ?_
                    refine j_iconst hx dX12_judges_261 ?_
                    refine j_aload_n hx 0 dX12_judges_262 rfl ?_
                    refine g13_45 hx hG ha kf_RX12_99 dX12_judges_263 ?_
                    refine j_iload_n hx 1 dX12_judges_266 rfl ?_
                    have f12 := zaI (j := (v1).toNat) hS0 (zr (k := 45) (t2 := 98) hG ha rfl) rfl (zlen hG (zr (k := 45) (t2 := 98) hG ha rfl) (n := 3) rfl rfl) (show 0 ≤ v1 by omega) (by omega) rfl
                    refine j_iald hx hG (zr (k := 45) (t2 := 98) hG ha rfl) (by decide) rfl (zlen hG (zr (k := 45) (t2 := 98) hG ha rfl) (n := 3) rfl rfl) (by omega) (by omega) (j := (v1).toNat) rfl (v := (s0 (gP G a 45) (v1).toNat)) (by rw [e_s13, zU_at (Or.inl (zne (zr (k := 30) (t2 := 87) hG ha rfl) (zr (k := 45) (t2 := 98) hG ha rfl) (by decide))), e_s11, zU_at (Or.inl (zne (zr (k := 30) (t2 := 87) hG ha rfl) (zr (k := 45) (t2 := 98) hG ha rfl) (by decide))), (zFr_g hF_s7 (zr (k := 45) (t2 := 98) hG ha rfl) (by decide))]) dX12_judges_267 ?_
                    refine j_iast hx hG (zr (k := 30) (t2 := 87) hG ha rfl) (by decide) rfl (zlen hG (zr (k := 30) (t2 := 87) hG ha rfl) (n := 5) rfl rfl) (by omega) (by omega) (j := 2) rfl dX12_judges_268 ?_
                    obtain ⟨s14, e_s14⟩ : ∃ z, z = zU s13 (gP G a 30) 2 ((s0 (gP G a 45) (v1).toNat)) := ⟨_, rfl⟩
                    rw [← e_s14]
                    have hS_s14 : zSK G s14 := by rw [e_s14]; exact zSK_A hS_s13 (zr (k := 30) (t2 := 87) hG ha rfl) rfl rfl rfl (by omega)
                    refine j_iload hx 2 dX12_judges_269 rfl ?_
                    refine j_iconst hx dX12_judges_271 ?_
                    refine j_icmp_ne hx 287 dX12_judges_272 rfl ⟨by decide, by decide⟩ ⟨by decide, by decide⟩ (fun h13 => absurd h13 (by omega)) (fun h13 => ?_)
                    refine j_aload_n hx 0 dX12_judges_275 rfl ?_
                    refine j_iload_n hx 1 dX12_judges_276 rfl ?_
                    refine j_iconst hx dX12_judges_277 ?_
                    have g14 : zc (s14 (gP G a 27)) = zc (s0 (gP G a 27)) := by rw [e_s14, zU_ne (zne (zr (k := 27) (t2 := 84) hG ha rfl) (zr (k := 30) (t2 := 87) hG ha rfl) (by decide)), e_s13, zU_ne (zne (zr (k := 27) (t2 := 84) hG ha rfl) (zr (k := 30) (t2 := 87) hG ha rfl) (by decide)), e_s11, zU_ne (zne (zr (k := 27) (t2 := 84) hG ha rfl) (zr (k := 30) (t2 := 87) hG ha rfl) (by decide)), (zFr_g hF_s7 (zr (k := 27) (t2 := 84) hG ha rfl) (by decide))]
                    have g15 : s14 (gP G a 27) 488 = s0 (gP G a 27) 488 := (by rw [e_s14, zU_at (Or.inl (zne (zr (k := 30) (t2 := 87) hG ha rfl) (zr (k := 27) (t2 := 84) hG ha rfl) (by decide))), e_s13, zU_at (Or.inl (zne (zr (k := 30) (t2 := 87) hG ha rfl) (zr (k := 27) (t2 := 84) hG ha rfl) (by decide))), e_s11, zU_at (Or.inl (zne (zr (k := 30) (t2 := 87) hG ha rfl) (zr (k := 27) (t2 := 84) hG ha rfl) (by decide))), (zFr_g hF_s7 (zr (k := 27) (t2 := 84) hG ha rfl) (by decide))])
                    refine j_callV hx hG (c_X12_counts hst a v1 3) lk_RX12_388 ha (by decide) rfl rfl rfl rfl [.int (zI v1), .int (zI 3)] ⟨rfl, hG, hS_s14, ha, (by omega), (by omega)⟩ rfl rfl ⟨by decide, by decide⟩ ⟨by decide, by decide⟩ (k2 := 0) (n2 := 0) rfl rfl (Nat.le_of_ble_eq_true rfl) dX12_judges_278 (kVM (fun s15 hS_s15 hF_s15 q17 => ?_))
                    refine j_aload_n hx 0 dX12_judges_281 rfl ?_
                    refine j_iload_n hx 1 dX12_judges_282 rfl ?_
                    refine j_callV hx hG (c_X12_falls hst a v1) lk_RX12_391 ha (by decide) rfl rfl rfl rfl [.int (zI v1)] ⟨rfl, hG, hS_s15, ha, (by omega), (by omega)⟩ rfl rfl ⟨by decide, by decide⟩ ⟨by decide, by decide⟩ (k2 := 0) (n2 := 0) rfl rfl (Nat.le_of_ble_eq_true rfl) dX12_judges_283 (kVM (fun s16 hS_s16 hF_s16 q19 => ?_))
                    exact j_vret hx hq rfl (by decide) (by decide) dX12_judges_286 ⟨rfl, rfl, hS_s16, (zFr_t (zFr_t (zFr_u (zFr_u (zFr_u (zFr_t zFr_rf hF_s7 (by decide)) e_s11 (zr (k := 30) (t2 := 87) hG ha rfl) (by decide)) e_s13 (zr (k := 30) (t2 := 87) hG ha rfl) (by decide)) e_s14 (zr (k := 30) (t2 := 87) hG ha rfl) (by decide)) hF_s15 (by decide)) hF_s16 (by decide)), ⟨by omega, by omega⟩⟩
                  refine j_icmp_le hx 250 dX12_judges_146 rfl (by omega) ⟨by decide, by decide⟩ (fun h20 => ?_) (fun h20 => ?_)
                  · skip
                    exact j_sub [1, 2, 0] [(0, .ref a), (1, .int (zI v1)), (4, .int (zI (-1)))] rfl (c250_12  )
                  · skip
                    refine j_aload_n hx 1 dX12_judges_149 rfl ?_
                    refine g13_27 hx hG ha kf_RX12_56 dX12_judges_150 ?_
                    refine j_sipush hx dX12_judges_153 rfl ?_
                    have f21 := zaQ (j := 492) hS0 (zr (k := 27) (t2 := 84) hG ha rfl) (congrArg some (axS_7 492 (by omega))) (zlen hG (zr (k := 27) (t2 := 84) hG ha rfl) (n := 515) rfl rfl) (show 0 ≤ 492 by omega) (by omega) rfl
                    refine j_iald hx hG (zr (k := 27) (t2 := 84) hG ha rfl) (by decide) rfl (zlen hG (zr (k := 27) (t2 := 84) hG ha rfl) (n := 515) rfl rfl) (by omega) (by omega) (j := 492) rfl (v := (s0 (gP G a 27) 492)) (by rw [e_s11, zU_at (Or.inl (zne (zr (k := 30) (t2 := 87) hG ha rfl) (zr (k := 27) (t2 := 84) hG ha rfl) (by decide))), (zFr_g hF_s7 (zr (k := 27) (t2 := 84) hG ha rfl) (by decide))]) dX12_judges_156 ?_
                    refine j_if_le hx 250 dX12_judges_157 rfl (by omega) (fun h22 => ?_) (fun h22 => ?_)
                    · skip
                      exact j_sub [1, 2, 0] [(0, .ref a), (1, .int (zI v1)), (4, .int (zI (-1)))] rfl (c250_12  )
                    · skip
                      refine j_iconst hx dX12_judges_160 ?_
                      refine j_istore hx [(5, .int (zI 0)), (4, .int (zI (-1))), (0, .ref a), (1, .int (zI v1)), (2, .int (zI v2)), (3, .int (zI v3))] dX12_judges_161 (by decide) rfl ?_
                      have g24 : s11 (gP G a 27) 488 = s0 (gP G a 27) 488 := (by rw [e_s11, zU_at (Or.inl (zne (zr (k := 30) (t2 := 87) hG ha rfl) (zr (k := 27) (t2 := 84) hG ha rfl) (by decide))), (zFr_g hF_s7 (zr (k := 27) (t2 := 84) hG ha rfl) (by decide))])
                      have g25 : zc (s11 (gP G a 27)) = zc (s0 (gP G a 27)) := by rw [e_s11, zU_ne (zne (zr (k := 27) (t2 := 84) hG ha rfl) (zr (k := 30) (t2 := 87) hG ha rfl) (by decide)), (zFr_g hF_s7 (zr (k := 27) (t2 := 84) hG ha rfl) (by decide))]
                      have c163_17 : ∀ (m_c163_17 : Nat) (v23 : Int) (s18 : zS), 2147483648 - v23 < m_c163_17 → (0 ≤ v23 ∧ v23 ≤ 3) → (zSK G s18) → (zFr [84] G s11 s18) → (zc (s18 (gP G a 27)) = zc (s11 (gP G a 27))) → (s18 (gP G a 27) 488 = s11 (gP G a 27) 488) → JJ X E 6 G s18 0 0 [(0, .ref a), (1, .int (zI v1)), (4, .int (zI (-1))), (5, .int (zI v23))] 163 [] := by
                        intro m_c163_17
                        induction m_c163_17 with
                        | zero => intro v23 s18 hm_c163_17 fA19 hS_s18 hF_s18 fA22 fA23; exfalso; omega
                        | succ m_c163_17 ih_c163_17 => 
                          intro v23 s18 hm_c163_17 fA19 hS_s18 hF_s18 fA22 fA23
                          refine j_iload hx 3 dX12_judges_163 rfl ?_
                          refine j_aload_n hx 0 dX12_judges_165 rfl ?_
                          refine g13_24 hx hG ha kf_RX12_189 (v := (s0 a 24)) (by rw [(zFr_g hF_s18 ha (by decide)), e_s11, zU_at (Or.inl (zne (zr (k := 30) (t2 := 87) hG ha rfl) ha (by decide))), (zFr_g hF_s7 ha (by decide))]) dX12_judges_166 ?_
                          refine j_icmp_ge hx 201 dX12_judges_169 rfl (by omega) (by omega) (fun h26 => ?_) (fun h26 => ?_)
                          · skip
                            refine j_aload_n hx 0 dX12_judges_201 rfl ?_
                            refine g13_27 hx hG ha kf_RX12_56 dX12_judges_202 ?_
                            refine j_sipush hx dX12_judges_205 rfl ?_
                            have f27 := zaQ (j := 492) hS_s18 (zr (k := 27) (t2 := 84) hG ha rfl) (congrArg some (axS_7 492 (by omega))) (zlen hG (zr (k := 27) (t2 := 84) hG ha rfl) (n := 515) rfl rfl) (show 0 ≤ 492 by omega) (by omega) rfl
                            refine j_iald hx hG (zr (k := 27) (t2 := 84) hG ha rfl) (by decide) rfl (zlen hG (zr (k := 27) (t2 := 84) hG ha rfl) (n := 515) rfl rfl) (by omega) (by omega) (j := 492) rfl rfl dX12_judges_208 ?_
                            refine j_iconst hx dX12_judges_209 ?_
                            refine j_icmp_ne hx 249 dX12_judges_210 rfl (by omega) ⟨by decide, by decide⟩ (fun h28 => ?_) (fun h28 => ?_)
                            · skip
                              exact j_vret hx hq rfl (by decide) (by decide) dX12_judges_249 ⟨rfl, rfl, hS_s18, (zFr_t (zFr_u (zFr_t zFr_rf hF_s7 (by decide)) e_s11 (zr (k := 30) (t2 := 87) hG ha rfl) (by decide)) hF_s18 (by decide)), ⟨by omega, by omega⟩⟩
                            · skip
                              refine j_iload hx 2 dX12_judges_213 rfl ?_
                              refine j_iconst hx dX12_judges_215 ?_
                              refine j_icmp_eq hx 249 dX12_judges_216 rfl ⟨by decide, by decide⟩ ⟨by decide, by decide⟩ (fun h29 => ?_) (fun h29 => absurd h29 (by omega))
                              exact j_vret hx hq rfl (by decide) (by decide) dX12_judges_249 ⟨rfl, rfl, hS_s18, (zFr_t (zFr_u (zFr_t zFr_rf hF_s7 (by decide)) e_s11 (zr (k := 30) (t2 := 87) hG ha rfl) (by decide)) hF_s18 (by decide)), ⟨by omega, by omega⟩⟩
                          · skip
                            refine j_aload_n hx 0 dX12_judges_172 rfl ?_
                            refine g13_45 hx hG ha kf_RX12_99 dX12_judges_173 ?_
                            refine j_iload hx 3 dX12_judges_176 rfl ?_
                            have f30 := zaI (j := (v23).toNat) hS0 (zr (k := 45) (t2 := 98) hG ha rfl) rfl (zlen hG (zr (k := 45) (t2 := 98) hG ha rfl) (n := 3) rfl rfl) (show 0 ≤ v23 by omega) (by omega) rfl
                            refine j_iald hx hG (zr (k := 45) (t2 := 98) hG ha rfl) (by decide) rfl (zlen hG (zr (k := 45) (t2 := 98) hG ha rfl) (n := 3) rfl rfl) (by omega) (by omega) (j := (v23).toNat) rfl (v := (s0 (gP G a 45) (v23).toNat)) (by rw [(zFr_g hF_s18 (zr (k := 45) (t2 := 98) hG ha rfl) (by decide)), e_s11, zU_at (Or.inl (zne (zr (k := 30) (t2 := 87) hG ha rfl) (zr (k := 45) (t2 := 98) hG ha rfl) (by decide))), (zFr_g hF_s7 (zr (k := 45) (t2 := 98) hG ha rfl) (by decide))]) dX12_judges_178 ?_
                            refine j_aload_n hx 0 dX12_judges_179 rfl ?_
                            refine g13_45 hx hG ha kf_RX12_99 dX12_judges_180 ?_
                            refine j_iload_n hx 1 dX12_judges_183 rfl ?_
                            have f31 := zaI (j := (v1).toNat) hS0 (zr (k := 45) (t2 := 98) hG ha rfl) rfl (zlen hG (zr (k := 45) (t2 := 98) hG ha rfl) (n := 3) rfl rfl) (show 0 ≤ v1 by omega) (by omega) rfl
                            refine j_iald hx hG (zr (k := 45) (t2 := 98) hG ha rfl) (by decide) rfl (zlen hG (zr (k := 45) (t2 := 98) hG ha rfl) (n := 3) rfl rfl) (by omega) (by omega) (j := (v1).toNat) rfl (v := (s0 (gP G a 45) (v1).toNat)) (by rw [(zFr_g hF_s18 (zr (k := 45) (t2 := 98) hG ha rfl) (by decide)), e_s11, zU_at (Or.inl (zne (zr (k := 30) (t2 := 87) hG ha rfl) (zr (k := 45) (t2 := 98) hG ha rfl) (by decide))), (zFr_g hF_s7 (zr (k := 45) (t2 := 98) hG ha rfl) (by decide))]) dX12_judges_184 ?_
                            have c195_24 : ∀ (s25 : zS), (zSK G s25) → (zFr [84] G s18 s25) → (zc (s25 (gP G a 27)) = zc (s18 (gP G a 27))) → JJ X E 6 G s25 0 0 [(0, .ref a), (1, .int (zI v1)), (4, .int (zI (-1))), (5, .int (zI v23))] 195 [] := by
                              intro s25 hS_s25 hF_s25 fA28
                              refine j_iinc hx 3 [(5, .int (zI (v23 + 1))), (0, .ref a), (1, .int (zI v1)), (4, .int (zI (-1)))] dX12_judges_195 rfl (by omega) (by decide) rfl ?_
                              refine j_goto hx 163 dX12_judges_198 rfl ?_
                              exact j_sub [1, 2, 3, 0] [(0, .ref a), (1, .int (zI v1)), (4, .int (zI (-1))), (5, .int (zI (v23 + 1)))] rfl (ih_c163_17 (v23 + 1) s25 (by omega) (by omega) hS_s25 (zFr_t (zFr_t zFr_rf hF_s18 (by decide)) hF_s25 (by decide)) (by omega) (by omega))
                            refine j_icmp_ne hx 195 dX12_judges_185 rfl (by omega) (by omega) (fun h32 => ?_) (fun h32 => ?_)
                            · skip
                              exact j_sub [0, 1, 2, 3] [(0, .ref a), (1, .int (zI v1)), (4, .int (zI (-1))), (5, .int (zI v23))] rfl (c195_24 s18 hS_s18 zFr_rf (by omega))
                            · skip
                              refine j_aload_n hx 0 dX12_judges_188 rfl ?_
                              refine j_iload hx 3 dX12_judges_189 rfl ?_
                              refine j_iconst hx dX12_judges_191 ?_
                              refine j_callV hx hG (c_X12_counts hst a v23 4) lk_RX12_388 ha (by decide) rfl rfl rfl rfl [.int (zI v23), .int (zI 4)] ⟨rfl, hG, hS_s18, ha, (by omega), (by omega)⟩ rfl rfl ⟨by decide, by decide⟩ ⟨by decide, by decide⟩ (k2 := 0) (n2 := 0) rfl rfl (Nat.le_of_ble_eq_true rfl) dX12_judges_192 (kVM (fun s29 hS_s29 hF_s29 q34 => ?_))
                              exact j_sub [0, 1, 2, 3] [(0, .ref a), (1, .int (zI v1)), (4, .int (zI (-1))), (5, .int (zI v23))] rfl (c195_24 s29 hS_s29 (zFr_t zFr_rf hF_s29 (by decide)) (by omega))
                      exact j_sub [2, 3, 1, 0] [(0, .ref a), (1, .int (zI v1)), (4, .int (zI (-1))), (5, .int (zI 0))] rfl (c163_17 (2147483648 * 4) 0 s11 (by omega) (by omega) hS_s11 zFr_rf (by omega) (by omega))
                · skip
                  refine j_iload_n hx 4 dX12_judges_144 rfl ?_
                  refine j_iconst hx dX12_judges_145 ?_
                  have c250_30 : JJ X E 6 G s11 0 0 [(0, .ref a), (1, .int (zI v1)), (4, .int (zI 1))] 250 [] := by
                    refine j_aload_n hx 0 dX12_judges_250 rfl ?_
                    refine g13_30 hx hG ha kf_RX12_65 dX12_judges_251 ?_
                    refine j_iconst hx dX12_judges_254 ?_
                    refine j_iload_n hx 1 dX12_judges_255 rfl ?_
                    refine j_iast hx hG (zr (k := 30) (t2 := 87) hG ha rfl) (by decide) rfl (zlen hG (zr (k := 30) (t2 := 87) hG ha rfl) (n := 5) rfl rfl) (by omega) (by omega) (j := 1) rfl dX12_judges_256 ?_
                    obtain ⟨s31, e_s31⟩ : ∃ z, z = zU s11 (gP G a 30) 1 v1 := ⟨_, rfl⟩
                    rw [← e_s31]
                    have hS_s31 : zSK G s31 := by rw [e_s31]; exact zSK_A hS_s11 (zr (k := 30) (t2 := 87) hG ha rfl) rfl rfl rfl (by omega)
                    refine j_aload_n hx 0 dX12_judges_257 rfl ?_
                    refine g13_30 hx hG ha kf_RX12_65 dX12_judges_258 ?_
                    refine j_iconst hx dX12_judges_261 ?_
                    refine j_aload_n hx 0 dX12_judges_262 rfl ?_
                    refine g13_45 hx hG ha kf_RX12_99 dX12_judges_263 ?_
                    refine j_iload_n hx 1 dX12_judges_266 rfl ?_
                    have f35 := zaI (j := (v1).toNat) hS0 (zr (k := 45) (t2 := 98) hG ha rfl) rfl (zlen hG (zr (k := 45) (t2 := 98) hG ha rfl) (n := 3) rfl rfl) (show 0 ≤ v1 by omega) (by omega) rfl
                    refine j_iald hx hG (zr (k := 45) (t2 := 98) hG ha rfl) (by decide) rfl (zlen hG (zr (k := 45) (t2 := 98) hG ha rfl) (n := 3) rfl rfl) (by omega) (by omega) (j := (v1).toNat) rfl (v := (s0 (gP G a 45) (v1).toNat)) (by rw [e_s31, zU_at (Or.inl (zne (zr (k := 30) (t2 := 87) hG ha rfl) (zr (k := 45) (t2 := 98) hG ha rfl) (by decide))), e_s11, zU_at (Or.inl (zne (zr (k := 30) (t2 := 87) hG ha rfl) (zr (k := 45) (t2 := 98) hG ha rfl) (by decide))), (zFr_g hF_s7 (zr (k := 45) (t2 := 98) hG ha rfl) (by decide))]) dX12_judges_267 ?_
                    refine j_iast hx hG (zr (k := 30) (t2 := 87) hG ha rfl) (by decide) rfl (zlen hG (zr (k := 30) (t2 := 87) hG ha rfl) (n := 5) rfl rfl) (by omega) (by omega) (j := 2) rfl dX12_judges_268 ?_
                    obtain ⟨s32, e_s32⟩ : ∃ z, z = zU s31 (gP G a 30) 2 ((s0 (gP G a 45) (v1).toNat)) := ⟨_, rfl⟩
                    rw [← e_s32]
                    have hS_s32 : zSK G s32 := by rw [e_s32]; exact zSK_A hS_s31 (zr (k := 30) (t2 := 87) hG ha rfl) rfl rfl rfl (by omega)
                    refine j_iload hx 2 dX12_judges_269 rfl ?_
                    refine j_iconst hx dX12_judges_271 ?_
                    refine j_icmp_ne hx 287 dX12_judges_272 rfl ⟨by decide, by decide⟩ ⟨by decide, by decide⟩ (fun h36 => ?_) (fun h36 => absurd h36 (by omega))
                    refine j_aload_n hx 0 dX12_judges_287 rfl ?_
                    have f37 := zf hS0 ha (k := 44) rfl
                    refine g13_44 hx hG ha kf_RX12_377 (v := (s0 a 44)) (by rw [e_s32, zU_at (Or.inl (zne (zr (k := 30) (t2 := 87) hG ha rfl) ha (by decide))), e_s31, zU_at (Or.inl (zne (zr (k := 30) (t2 := 87) hG ha rfl) ha (by decide))), e_s11, zU_at (Or.inl (zne (zr (k := 30) (t2 := 87) hG ha rfl) ha (by decide))), (zFr_g hF_s7 ha (by decide))]) dX12_judges_288 ?_
                    have c312_33 : ∀ (v38 : Int), (0 ≤ v38 ∧ v38 ≤ 1) → JJ X E 6 G s32 0 0 [(0, .ref a), (1, .int (zI v1)), (4, .int (zI 1))] 312 [.int (zI v38)] := by
                      intro v38 fA34
                      refine j_istore hx [(5, .int (zI v38)), (0, .ref a), (1, .int (zI v1)), (4, .int (zI 1))] dX12_judges_312 (by decide) rfl ?_
                      refine j_aload_n hx 1 dX12_judges_314 rfl ?_
                      refine j_iload_n hx 2 dX12_judges_315 rfl ?_
                      refine j_aload_n hx 1 dX12_judges_316 rfl ?_
                      refine g13_45 hx hG ha kf_RX12_99 dX12_judges_317 ?_
                      refine j_iload_n hx 2 dX12_judges_320 rfl ?_
                      refine j_iald hx hG (zr (k := 45) (t2 := 98) hG ha rfl) (by decide) rfl (zlen hG (zr (k := 45) (t2 := 98) hG ha rfl) (n := 3) rfl rfl) (by omega) (by omega) (j := (v1).toNat) rfl (v := (s0 (gP G a 45) (v1).toNat)) (by rw [e_s32, zU_at (Or.inl (zne (zr (k := 30) (t2 := 87) hG ha rfl) (zr (k := 45) (t2 := 98) hG ha rfl) (by decide))), e_s31, zU_at (Or.inl (zne (zr (k := 30) (t2 := 87) hG ha rfl) (zr (k := 45) (t2 := 98) hG ha rfl) (by decide))), e_s11, zU_at (Or.inl (zne (zr (k := 30) (t2 := 87) hG ha rfl) (zr (k := 45) (t2 := 98) hG ha rfl) (by decide))), (zFr_g hF_s7 (zr (k := 45) (t2 := 98) hG ha rfl) (by decide))]) dX12_judges_321 ?_
                      have c339_35 : ∀ (v39 : Int), (0 ≤ v39 ∧ v39 ≤ 2) → JJ X E 6 G s32 0 0 [(0, .ref a), (1, .int (zI v1)), (4, .int (zI 1))] 339 [.int (zI v39), .int (zI v1), .ref a] := by
                        intro v39 fA36
                        have g40 : zc (s32 (gP G a 27)) = zc (s0 (gP G a 27)) := by rw [e_s32, zU_ne (zne (zr (k := 27) (t2 := 84) hG ha rfl) (zr (k := 30) (t2 := 87) hG ha rfl) (by decide)), e_s31, zU_ne (zne (zr (k := 27) (t2 := 84) hG ha rfl) (zr (k := 30) (t2 := 87) hG ha rfl) (by decide)), e_s11, zU_ne (zne (zr (k := 27) (t2 := 84) hG ha rfl) (zr (k := 30) (t2 := 87) hG ha rfl) (by decide)), (zFr_g hF_s7 (zr (k := 27) (t2 := 84) hG ha rfl) (by decide))]
                        have g41 : s32 (gP G a 27) 488 = s0 (gP G a 27) 488 := (by rw [e_s32, zU_at (Or.inl (zne (zr (k := 30) (t2 := 87) hG ha rfl) (zr (k := 27) (t2 := 84) hG ha rfl) (by decide))), e_s31, zU_at (Or.inl (zne (zr (k := 30) (t2 := 87) hG ha rfl) (zr (k := 27) (t2 := 84) hG ha rfl) (by decide))), e_s11, zU_at (Or.inl (zne (zr (k := 30) (t2 := 87) hG ha rfl) (zr (k := 27) (t2 := 84) hG ha rfl) (by decide))), (zFr_g hF_s7 (zr (k := 27) (t2 := 84) hG ha rfl) (by decide))])
                        refine j_callV hx hG (c_X12_counts hst a v1 v39) lk_RX12_388 ha (by decide) rfl rfl rfl rfl [.int (zI v1), .int (zI v39)] ⟨rfl, hG, hS_s32, ha, (by omega), (by omega)⟩ rfl rfl ⟨by decide, by decide⟩ ⟨by decide, by decide⟩ (k2 := 0) (n2 := 0) rfl rfl (Nat.le_of_ble_eq_true rfl) dX12_judges_339 (kVM (fun s37 hS_s37 hF_s37 q43 => ?_))
                        refine j_aload_n hx 0 dX12_judges_342 rfl ?_
                        refine g13_30 hx hG ha kf_RX12_65 dX12_judges_343 ?_
                        refine j_iconst hx dX12_judges_346 ?_
                        refine j_iload_n hx 1 dX12_judges_347 rfl ?_
                        refine j_iast hx hG (zr (k := 30) (t2 := 87) hG ha rfl) (by decide) rfl (zlen hG (zr (k := 30) (t2 := 87) hG ha rfl) (n := 5) rfl rfl) (by omega) (by omega) (j := 0) rfl dX12_judges_348 ?_
                        obtain ⟨s38, e_s38⟩ : ∃ z, z = zU s37 (gP G a 30) 0 v1 := ⟨_, rfl⟩
                        rw [← e_s38]
                        have hS_s38 : zSK G s38 := by rw [e_s38]; exact zSK_A hS_s37 (zr (k := 30) (t2 := 87) hG ha rfl) rfl rfl rfl (by omega)
                        refine j_aload_n hx 0 dX12_judges_349 rfl ?_
                        refine g13_30 hx hG ha kf_RX12_65 dX12_judges_350 ?_
                        refine j_iconst hx dX12_judges_353 ?_
                        refine j_aload_n hx 0 dX12_judges_354 rfl ?_
                        refine j_iload_n hx 1 dX12_judges_355 rfl ?_
                        refine j_iload hx 2 dX12_judges_356 rfl ?_
                        have g44 : zc (s38 (gP G a 27)) = zc (s37 (gP G a 27)) := by rw [e_s38, zU_ne (zne (zr (k := 27) (t2 := 84) hG ha rfl) (zr (k := 30) (t2 := 87) hG ha rfl) (by decide))]
                        have g45 : s38 (gP G a 27) 488 = s37 (gP G a 27) 488 := (by rw [e_s38, zU_at (Or.inl (zne (zr (k := 30) (t2 := 87) hG ha rfl) (zr (k := 27) (t2 := 84) hG ha rfl) (by decide)))])
                        refine j_callV hx hG (c_X12_wins hst a v1 1) lk_RX12_394 ha (by decide) rfl rfl rfl rfl [.int (zI v1), .int (zI 1)] ⟨rfl, hG, hS_s38, ha, (by omega), (by omega), (by omega), (by omega)⟩ rfl rfl ⟨by decide, by decide⟩ ⟨by decide, by decide⟩ (k2 := 0) (n2 := 0) rfl rfl (Nat.le_of_ble_eq_true rfl) dX12_judges_358 (kIM (fun v46 s39 hS_s39 hF_s39 q47 => ?_))
                        refine j_iast hx hG (zr (k := 30) (t2 := 87) hG ha rfl) (by decide) rfl (zlen hG (zr (k := 30) (t2 := 87) hG ha rfl) (n := 5) rfl rfl) (by omega) (by omega) (j := 4) rfl dX12_judges_361 ?_
                        obtain ⟨s40, e_s40⟩ : ∃ z, z = zU s39 (gP G a 30) 4 v46 := ⟨_, rfl⟩
                        rw [← e_s40]
                        have hS_s40 : zSK G s40 := by rw [e_s40]; exact zSK_A hS_s39 (zr (k := 30) (t2 := 87) hG ha rfl) rfl rfl rfl (by omega)
                        refine j_aload_n hx 0 dX12_judges_362 rfl ?_
                        refine g13_27 hx hG ha kf_RX12_56 dX12_judges_363 ?_
                        refine j_sipush hx dX12_judges_366 rfl ?_
                        refine j_iload_n hx 1 dX12_judges_369 rfl ?_
                        refine j_iadd hx (r := v1 + 512) dX12_judges_370 (by omega) ?_
                        refine j_dup2 hx dX12_judges_371 rfl rfl ?_
                        have f48 := zaQ (j := (v1 + 512).toNat) hS_s39 (zr (k := 27) (t2 := 84) hG ha rfl) (congrArg some (axS_8 (v1 + 512).toNat (by omega))) (zlen hG (zr (k := 27) (t2 := 84) hG ha rfl) (n := 515) rfl rfl) (show 0 ≤ v1 + 512 by omega) (by omega) rfl
                        refine j_iald hx hG (zr (k := 27) (t2 := 84) hG ha rfl) (by decide) rfl (zlen hG (zr (k := 27) (t2 := 84) hG ha rfl) (n := 515) rfl rfl) (by omega) (by omega) (j := (v1 + 512).toNat) rfl (v := (s39 (gP G a 27) (v1 + 512).toNat)) (by rw [e_s40, zU_at (Or.inl (zne (zr (k := 30) (t2 := 87) hG ha rfl) (zr (k := 27) (t2 := 84) hG ha rfl) (by decide)))]) dX12_judges_372 ?_
                        refine j_aload_n hx 0 dX12_judges_373 rfl ?_
                        refine g13_30 hx hG ha kf_RX12_65 dX12_judges_374 ?_
                        refine j_iconst hx dX12_judges_377 ?_
                        refine j_iald hx hG (zr (k := 30) (t2 := 87) hG ha rfl) (by decide) rfl (zlen hG (zr (k := 30) (t2 := 87) hG ha rfl) (n := 5) rfl rfl) (by omega) (by omega) (j := 4) rfl (v := v46) (by rw [e_s40, zU_eq]) dX12_judges_378 ?_
                        refine j_iadd hx (r := (s39 (gP G a 27) (v1 + 512).toNat) + v46) dX12_judges_379 (by omega) ?_
                        refine j_norm (fun v49 f50 f51 f52 => ?_)
                        refine j_iast hx hG (zr (k := 27) (t2 := 84) hG ha rfl) (by decide) rfl (zlen hG (zr (k := 27) (t2 := 84) hG ha rfl) (n := 515) rfl rfl) (by omega) (by omega) (j := (v1 + 512).toNat) rfl dX12_judges_380 ?_
                        obtain ⟨s41, e_s41⟩ : ∃ z, z = zU s40 (gP G a 27) (v1 + 512).toNat v49 := ⟨_, rfl⟩
                        rw [← e_s41]
                        have hS_s41 : zSK G s41 := by rw [e_s41]; exact zSK_a hS_s40 (zr (k := 27) (t2 := 84) hG ha rfl) rfl rfl (congrArg some (axS_8 (v1 + 512).toNat (by omega))) (by omega)
                        have g54 : zc (s40 (gP G a 27)) = zc (s39 (gP G a 27)) := by rw [e_s40, zU_ne (zne (zr (k := 27) (t2 := 84) hG ha rfl) (zr (k := 30) (t2 := 87) hG ha rfl) (by decide))]
                        have z53 : zc (s41 (gP G a 27)) = zc (s40 (gP G a 27)) := by rw [e_s41]; exact zc_o (by omega)
                        have g55 : s41 (gP G a 27) 488 = s39 (gP G a 27) 488 := (by rw [e_s41, zU_at (Or.inr (by omega)), e_s40, zU_at (Or.inl (zne (zr (k := 30) (t2 := 87) hG ha rfl) (zr (k := 27) (t2 := 84) hG ha rfl) (by decide)))])
                        exact j_vret hx hq rfl (by decide) (by decide) dX12_judges_381 ⟨rfl, rfl, hS_s41, (zFr_u (zFr_u (zFr_t (zFr_u (zFr_t (zFr_u (zFr_u (zFr_u (zFr_t zFr_rf hF_s7 (by decide)) e_s11 (zr (k := 30) (t2 := 87) hG ha rfl) (by decide)) e_s31 (zr (k := 30) (t2 := 87) hG ha rfl) (by decide)) e_s32 (zr (k := 30) (t2 := 87) hG ha rfl) (by decide)) hF_s37 (by decide)) e_s38 (zr (k := 30) (t2 := 87) hG ha rfl) (by decide)) hF_s39 (by decide)) e_s40 (zr (k := 30) (t2 := 87) hG ha rfl) (by decide)) e_s41 (zr (k := 27) (t2 := 84) hG ha rfl) (by decide)), ⟨by omega, by omega⟩⟩
                      refine j_if_lt hx 329 dX12_judges_322 rfl (by omega) (fun h56 => ?_) (fun h56 => ?_)
                      · skip
                        refine j_iload hx 0 dX12_judges_329 rfl ?_
                        refine j_if_eq hx 338 dX12_judges_331 rfl (by omega) (fun h57 => ?_) (fun h57 => ?_)
                        · skip
                          refine j_iconst hx dX12_judges_338 ?_
                          exact j_sub [1, 2, 3] [(0, .ref a), (1, .int (zI v1)), (4, .int (zI 1))] rfl (c339_35 1 (by omega))
                        · skip
                          refine j_iconst hx dX12_judges_334 ?_
                          refine j_goto hx 339 dX12_judges_335 rfl ?_
                          exact j_sub [1, 2, 3] [(0, .ref a), (1, .int (zI v1)), (4, .int (zI 1))] rfl (c339_35 2 (by omega))
                      · skip
                        refine j_iconst hx dX12_judges_325 ?_
                        refine j_goto hx 339 dX12_judges_326 rfl ?_
                        exact j_sub [1, 2, 3] [(0, .ref a), (1, .int (zI v1)), (4, .int (zI 1))] rfl (c339_35 0 (by omega))
                    have c311_42 : JJ X E 6 G s32 0 0 [(0, .ref a), (1, .int (zI v1)), (4, .int (zI 1))] 311 [] := by
                      refine j_iconst hx dX12_judges_311 ?_
                      exact j_sub [0, 1, 2] [(0, .ref a), (1, .int (zI v1)), (4, .int (zI 1))] rfl (c312_33 0 (by omega))
                    refine j_if_eq hx 311 dX12_judges_291 rfl (by omega) (fun h58 => ?_) (fun h58 => ?_)
                    · skip
                      exact j_sub [0, 1, 2] [(0, .ref a), (1, .int (zI v1)), (4, .int (zI 1))] rfl (c311_42  )
                    · skip
                      refine j_aload_n hx 0 dX12_judges_294 rfl ?_
                      refine g13_17 hx hG ha kf_RX12_44 dX12_judges_295 ?_
                      refine j_iconst hx dX12_judges_298 ?_
                      refine j_iload_n hx 1 dX12_judges_299 rfl ?_
                      refine j_imul hx (r := 4 * v1) dX12_judges_300 rfl ?_
                      refine j_iconst hx dX12_judges_301 ?_
                      refine j_iadd hx (r := 4 * v1 + 1) dX12_judges_302 (by omega) ?_
                      have f59 := zaI (j := (4 * v1 + 1).toNat) hS0 (zr (k := 17) (t2 := 80) hG ha rfl) rfl (zlen hG (zr (k := 17) (t2 := 80) hG ha rfl) (n := 12) rfl rfl) (show 0 ≤ 4 * v1 + 1 by omega) (by omega) rfl
                      refine j_iald hx hG (zr (k := 17) (t2 := 80) hG ha rfl) (by decide) rfl (zlen hG (zr (k := 17) (t2 := 80) hG ha rfl) (n := 12) rfl rfl) (by omega) (by omega) (j := (4 * v1 + 1).toNat) rfl (v := (s0 (gP G a 17) (4 * v1 + 1).toNat)) (by rw [e_s32, zU_at (Or.inl (zne (zr (k := 30) (t2 := 87) hG ha rfl) (zr (k := 17) (t2 := 80) hG ha rfl) (by decide))), e_s31, zU_at (Or.inl (zne (zr (k := 30) (t2 := 87) hG ha rfl) (zr (k := 17) (t2 := 80) hG ha rfl) (by decide))), e_s11, zU_at (Or.inl (zne (zr (k := 30) (t2 := 87) hG ha rfl) (zr (k := 17) (t2 := 80) hG ha rfl) (by decide))), (zFr_g hF_s7 (zr (k := 17) (t2 := 80) hG ha rfl) (by decide))]) dX12_judges_303 ?_
                      refine j_if_le hx 311 dX12_judges_304 rfl (by omega) (fun h60 => ?_) (fun h60 => ?_)
                      · skip
                        exact j_sub [0, 1, 2] [(0, .ref a), (1, .int (zI v1)), (4, .int (zI 1))] rfl (c311_42  )
                      · skip
                        refine j_iconst hx dX12_judges_307 ?_
                        refine j_goto hx 312 dX12_judges_308 rfl ?_
                        exact j_sub [0, 1, 2] [(0, .ref a), (1, .int (zI v1)), (4, .int (zI 1))] rfl (c312_33 1 (by omega))
                  refine j_icmp_le hx 250 dX12_judges_146 rfl (by omega) ⟨by decide, by decide⟩ (fun h61 => ?_) (fun h61 => ?_)
                  · skip
                    exact j_sub [1, 2, 0] [(0, .ref a), (1, .int (zI v1)), (4, .int (zI 1))] rfl (c250_30  )
                  · skip
                    refine j_aload_n hx 1 dX12_judges_149 rfl ?_
                    refine g13_27 hx hG ha kf_RX12_56 dX12_judges_150 ?_
                    refine j_sipush hx dX12_judges_153 rfl ?_
                    have f62 := zaQ (j := 492) hS0 (zr (k := 27) (t2 := 84) hG ha rfl) (congrArg some (axS_7 492 (by omega))) (zlen hG (zr (k := 27) (t2 := 84) hG ha rfl) (n := 515) rfl rfl) (show 0 ≤ 492 by omega) (by omega) rfl
                    refine j_iald hx hG (zr (k := 27) (t2 := 84) hG ha rfl) (by decide) rfl (zlen hG (zr (k := 27) (t2 := 84) hG ha rfl) (n := 515) rfl rfl) (by omega) (by omega) (j := 492) rfl (v := (s0 (gP G a 27) 492)) (by rw [e_s11, zU_at (Or.inl (zne (zr (k := 30) (t2 := 87) hG ha rfl) (zr (k := 27) (t2 := 84) hG ha rfl) (by decide))), (zFr_g hF_s7 (zr (k := 27) (t2 := 84) hG ha rfl) (by decide))]) dX12_judges_156 ?_
                    refine j_if_le hx 250 dX12_judges_157 rfl (by omega) (fun h63 => ?_) (fun h63 => ?_)
                    · skip
                      exact j_sub [1, 2, 0] [(0, .ref a), (1, .int (zI v1)), (4, .int (zI 1))] rfl (c250_30  )
                    · skip
                      refine j_iconst hx dX12_judges_160 ?_
                      refine j_istore hx [(5, .int (zI 0)), (4, .int (zI 1)), (0, .ref a), (1, .int (zI v1)), (2, .int (zI v2)), (3, .int (zI v3))] dX12_judges_161 (by decide) rfl ?_
                      have g65 : s11 (gP G a 27) 488 = s0 (gP G a 27) 488 := (by rw [e_s11, zU_at (Or.inl (zne (zr (k := 30) (t2 := 87) hG ha rfl) (zr (k := 27) (t2 := 84) hG ha rfl) (by decide))), (zFr_g hF_s7 (zr (k := 27) (t2 := 84) hG ha rfl) (by decide))])
                      have g66 : zc (s11 (gP G a 27)) = zc (s0 (gP G a 27)) := by rw [e_s11, zU_ne (zne (zr (k := 27) (t2 := 84) hG ha rfl) (zr (k := 30) (t2 := 87) hG ha rfl) (by decide)), (zFr_g hF_s7 (zr (k := 27) (t2 := 84) hG ha rfl) (by decide))]
                      have c163_43 : ∀ (m_c163_43 : Nat) (v64 : Int) (s44 : zS), 2147483648 - v64 < m_c163_43 → (0 ≤ v64 ∧ v64 ≤ 3) → (zSK G s44) → (zFr [84] G s11 s44) → (zc (s44 (gP G a 27)) = zc (s11 (gP G a 27))) → (s44 (gP G a 27) 488 = s11 (gP G a 27) 488) → JJ X E 6 G s44 0 0 [(0, .ref a), (1, .int (zI v1)), (4, .int (zI 1)), (5, .int (zI v64))] 163 [] := by
                        intro m_c163_43
                        induction m_c163_43 with
                        | zero => intro v64 s44 hm_c163_43 fA45 hS_s44 hF_s44 fA48 fA49; exfalso; omega
                        | succ m_c163_43 ih_c163_43 => 
                          intro v64 s44 hm_c163_43 fA45 hS_s44 hF_s44 fA48 fA49
                          refine j_iload hx 3 dX12_judges_163 rfl ?_
                          refine j_aload_n hx 0 dX12_judges_165 rfl ?_
                          refine g13_24 hx hG ha kf_RX12_189 (v := (s0 a 24)) (by rw [(zFr_g hF_s44 ha (by decide)), e_s11, zU_at (Or.inl (zne (zr (k := 30) (t2 := 87) hG ha rfl) ha (by decide))), (zFr_g hF_s7 ha (by decide))]) dX12_judges_166 ?_
                          refine j_icmp_ge hx 201 dX12_judges_169 rfl (by omega) (by omega) (fun h67 => ?_) (fun h67 => ?_)
                          · skip
                            refine j_aload_n hx 0 dX12_judges_201 rfl ?_
                            refine g13_27 hx hG ha kf_RX12_56 dX12_judges_202 ?_
                            refine j_sipush hx dX12_judges_205 rfl ?_
                            have f68 := zaQ (j := 492) hS_s44 (zr (k := 27) (t2 := 84) hG ha rfl) (congrArg some (axS_7 492 (by omega))) (zlen hG (zr (k := 27) (t2 := 84) hG ha rfl) (n := 515) rfl rfl) (show 0 ≤ 492 by omega) (by omega) rfl
                            refine j_iald hx hG (zr (k := 27) (t2 := 84) hG ha rfl) (by decide) rfl (zlen hG (zr (k := 27) (t2 := 84) hG ha rfl) (n := 515) rfl rfl) (by omega) (by omega) (j := 492) rfl rfl dX12_judges_208 ?_
                            refine j_iconst hx dX12_judges_209 ?_
                            refine j_icmp_ne hx 249 dX12_judges_210 rfl (by omega) ⟨by decide, by decide⟩ (fun h69 => ?_) (fun h69 => ?_)
                            · skip
                              exact j_vret hx hq rfl (by decide) (by decide) dX12_judges_249 ⟨rfl, rfl, hS_s44, (zFr_t (zFr_u (zFr_t zFr_rf hF_s7 (by decide)) e_s11 (zr (k := 30) (t2 := 87) hG ha rfl) (by decide)) hF_s44 (by decide)), ⟨by omega, by omega⟩⟩
                            · skip
                              refine j_iload hx 2 dX12_judges_213 rfl ?_
                              refine j_iconst hx dX12_judges_215 ?_
                              refine j_icmp_eq hx 249 dX12_judges_216 rfl ⟨by decide, by decide⟩ ⟨by decide, by decide⟩ (fun h70 => absurd h70 (by omega)) (fun h70 => ?_)
                              refine j_aload_n hx 0 dX12_judges_219 rfl ?_
                              refine j_iload hx 2 dX12_judges_220 rfl ?_
                              refine j_bipush hx dX12_judges_222 rfl ?_
                              refine j_idiv hx dX12_judges_224 ⟨by decide, by decide⟩ ⟨by decide, by decide⟩ (by decide) (fun v71 f72 f73 f74 => ?_)
                              refine j_sipush hx dX12_judges_225 rfl ?_
                              refine j_sipush hx dX12_judges_228 rfl ?_
                              refine j_callV hx hG (c_X12_comes hst a v71 360 486) lk_RX12_365 ha (by decide) rfl rfl rfl rfl [.int (zI v71), .int (zI 360), .int (zI 486)] ⟨rfl, hG, hS_s44, ha, (by omega), (by omega), (by omega), (by omega), (by omega)⟩ rfl rfl ⟨by decide, by decide⟩ ⟨by decide, by decide⟩ (k2 := 0) (n2 := 0) rfl rfl (Nat.le_of_ble_eq_true rfl) dX12_judges_231 (kVM (fun s50 hS_s50 hF_s50 q78 => ?_))
                              refine j_aload_n hx 0 dX12_judges_234 rfl ?_
                              refine j_iload hx 2 dX12_judges_235 rfl ?_
                              refine j_bipush hx dX12_judges_237 rfl ?_
                              refine j_irem hx dX12_judges_239 ⟨by decide, by decide⟩ ⟨by decide, by decide⟩ (by decide) (fun v79 f80 f81 f82 f83 => ?_)
                              refine j_sipush hx dX12_judges_240 rfl ?_
                              refine j_sipush hx dX12_judges_243 rfl ?_
                              refine j_callV hx hG (c_X12_comes hst a v79 360 486) lk_RX12_365 ha (by decide) rfl rfl rfl rfl [.int (zI v79), .int (zI 360), .int (zI 486)] ⟨rfl, hG, hS_s50, ha, (by omega), (by omega), (by omega), (by omega), (by omega)⟩ rfl rfl ⟨by decide, by decide⟩ ⟨by decide, by decide⟩ (k2 := 0) (n2 := 0) rfl rfl (Nat.le_of_ble_eq_true rfl) dX12_judges_246 (kVM (fun s51 hS_s51 hF_s51 q86 => ?_))
                              exact j_vret hx hq rfl (by decide) (by decide) dX12_judges_249 ⟨rfl, rfl, hS_s51, (zFr_t (zFr_t (zFr_t (zFr_u (zFr_t zFr_rf hF_s7 (by decide)) e_s11 (zr (k := 30) (t2 := 87) hG ha rfl) (by decide)) hF_s44 (by decide)) hF_s50 (by decide)) hF_s51 (by decide)), ⟨by omega, by omega⟩⟩
                          · skip
                            refine j_aload_n hx 0 dX12_judges_172 rfl ?_
                            refine g13_45 hx hG ha kf_RX12_99 dX12_judges_173 ?_
                            refine j_iload hx 3 dX12_judges_176 rfl ?_
                            have f87 := zaI (j := (v64).toNat) hS0 (zr (k := 45) (t2 := 98) hG ha rfl) rfl (zlen hG (zr (k := 45) (t2 := 98) hG ha rfl) (n := 3) rfl rfl) (show 0 ≤ v64 by omega) (by omega) rfl
                            refine j_iald hx hG (zr (k := 45) (t2 := 98) hG ha rfl) (by decide) rfl (zlen hG (zr (k := 45) (t2 := 98) hG ha rfl) (n := 3) rfl rfl) (by omega) (by omega) (j := (v64).toNat) rfl (v := (s0 (gP G a 45) (v64).toNat)) (by rw [(zFr_g hF_s44 (zr (k := 45) (t2 := 98) hG ha rfl) (by decide)), e_s11, zU_at (Or.inl (zne (zr (k := 30) (t2 := 87) hG ha rfl) (zr (k := 45) (t2 := 98) hG ha rfl) (by decide))), (zFr_g hF_s7 (zr (k := 45) (t2 := 98) hG ha rfl) (by decide))]) dX12_judges_178 ?_
                            refine j_aload_n hx 0 dX12_judges_179 rfl ?_
                            refine g13_45 hx hG ha kf_RX12_99 dX12_judges_180 ?_
                            refine j_iload_n hx 1 dX12_judges_183 rfl ?_
                            have f88 := zaI (j := (v1).toNat) hS0 (zr (k := 45) (t2 := 98) hG ha rfl) rfl (zlen hG (zr (k := 45) (t2 := 98) hG ha rfl) (n := 3) rfl rfl) (show 0 ≤ v1 by omega) (by omega) rfl
                            refine j_iald hx hG (zr (k := 45) (t2 := 98) hG ha rfl) (by decide) rfl (zlen hG (zr (k := 45) (t2 := 98) hG ha rfl) (n := 3) rfl rfl) (by omega) (by omega) (j := (v1).toNat) rfl (v := (s0 (gP G a 45) (v1).toNat)) (by rw [(zFr_g hF_s44 (zr (k := 45) (t2 := 98) hG ha rfl) (by decide)), e_s11, zU_at (Or.inl (zne (zr (k := 30) (t2 := 87) hG ha rfl) (zr (k := 45) (t2 := 98) hG ha rfl) (by decide))), (zFr_g hF_s7 (zr (k := 45) (t2 := 98) hG ha rfl) (by decide))]) dX12_judges_184 ?_
                            have c195_52 : ∀ (s53 : zS), (zSK G s53) → (zFr [84] G s44 s53) → (zc (s53 (gP G a 27)) = zc (s44 (gP G a 27))) → JJ X E 6 G s53 0 0 [(0, .ref a), (1, .int (zI v1)), (4, .int (zI 1)), (5, .int (zI v64))] 195 [] := by
                              intro s53 hS_s53 hF_s53 fA56
                              refine j_iinc hx 3 [(5, .int (zI (v64 + 1))), (0, .ref a), (1, .int (zI v1)), (4, .int (zI 1))] dX12_judges_195 rfl (by omega) (by decide) rfl ?_
                              refine j_goto hx 163 dX12_judges_198 rfl ?_
                              exact j_sub [1, 2, 3, 0] [(0, .ref a), (1, .int (zI v1)), (4, .int (zI 1)), (5, .int (zI (v64 + 1)))] rfl (ih_c163_43 (v64 + 1) s53 (by omega) (by omega) hS_s53 (zFr_t (zFr_t zFr_rf hF_s44 (by decide)) hF_s53 (by decide)) (by omega) (by omega))
                            refine j_icmp_ne hx 195 dX12_judges_185 rfl (by omega) (by omega) (fun h89 => ?_) (fun h89 => ?_)
                            · skip
                              exact j_sub [0, 1, 2, 3] [(0, .ref a), (1, .int (zI v1)), (4, .int (zI 1)), (5, .int (zI v64))] rfl (c195_52 s44 hS_s44 zFr_rf (by omega))
                            · skip
                              refine j_aload_n hx 0 dX12_judges_188 rfl ?_
                              refine j_iload hx 3 dX12_judges_189 rfl ?_
                              refine j_iconst hx dX12_judges_191 ?_
                              refine j_callV hx hG (c_X12_counts hst a v64 4) lk_RX12_388 ha (by decide) rfl rfl rfl rfl [.int (zI v64), .int (zI 4)] ⟨rfl, hG, hS_s44, ha, (by omega), (by omega)⟩ rfl rfl ⟨by decide, by decide⟩ ⟨by decide, by decide⟩ (k2 := 0) (n2 := 0) rfl rfl (Nat.le_of_ble_eq_true rfl) dX12_judges_192 (kVM (fun s57 hS_s57 hF_s57 q91 => ?_))
                              exact j_sub [0, 1, 2, 3] [(0, .ref a), (1, .int (zI v1)), (4, .int (zI 1)), (5, .int (zI v64))] rfl (c195_52 s57 hS_s57 (zFr_t zFr_rf hF_s57 (by decide)) (by omega))
                      exact j_sub [2, 3, 1, 0] [(0, .ref a), (1, .int (zI v1)), (4, .int (zI 1)), (5, .int (zI 0))] rfl (c163_43 (2147483648 * 4) 0 s11 (by omega) (by omega) hS_s11 zFr_rf (by omega) (by omega))
                · skip
                  refine j_iload_n hx 4 dX12_judges_144 rfl ?_
                  refine j_iconst hx dX12_judges_145 ?_
                  have c250_58 : JJ X E 6 G s11 0 0 [(0, .ref a), (1, .int (zI v1)), (4, .int (zI 2))] 250 [] := by
                    refine j_aload_n hx 0 dX12_judges_250 rfl ?_
                    refine g13_30 hx hG ha kf_RX12_65 dX12_judges_251 ?_
                    refine j_iconst hx dX12_judges_254 ?_
                    refine j_iload_n hx 1 dX12_judges_255 rfl ?_
                    refine j_iast hx hG (zr (k := 30) (t2 := 87) hG ha rfl) (by decide) rfl (zlen hG (zr (k := 30) (t2 := 87) hG ha rfl) (n := 5) rfl rfl) (by omega) (by omega) (j := 1) rfl dX12_judges_256 ?_
                    obtain ⟨s59, e_s59⟩ : ∃ z, z = zU s11 (gP G a 30) 1 v1 := ⟨_, rfl⟩
                    rw [← e_s59]
                    have hS_s59 : zSK G s59 := by rw [e_s59]; exact zSK_A hS_s11 (zr (k := 30) (t2 := 87) hG ha rfl) rfl rfl rfl (by omega)
                    refine j_aload_n hx 0 dX12_judges_257 rfl ?_
                    refine g13_30 hx hG ha kf_RX12_65 dX12_judges_258 ?_
                    refine j_iconst hx dX12_judges_261 ?_
                    refine j_aload_n hx 0 dX12_judges_262 rfl ?_
                    refine g13_45 hx hG ha kf_RX12_99 dX12_judges_263 ?_
                    refine j_iload_n hx 1 dX12_judges_266 rfl ?_
                    have f92 := zaI (j := (v1).toNat) hS0 (zr (k := 45) (t2 := 98) hG ha rfl) rfl (zlen hG (zr (k := 45) (t2 := 98) hG ha rfl) (n := 3) rfl rfl) (show 0 ≤ v1 by omega) (by omega) rfl
                    refine j_iald hx hG (zr (k := 45) (t2 := 98) hG ha rfl) (by decide) rfl (zlen hG (zr (k := 45) (t2 := 98) hG ha rfl) (n := 3) rfl rfl) (by omega) (by omega) (j := (v1).toNat) rfl (v := (s0 (gP G a 45) (v1).toNat)) (by rw [e_s59, zU_at (Or.inl (zne (zr (k := 30) (t2 := 87) hG ha rfl) (zr (k := 45) (t2 := 98) hG ha rfl) (by decide))), e_s11, zU_at (Or.inl (zne (zr (k := 30) (t2 := 87) hG ha rfl) (zr (k := 45) (t2 := 98) hG ha rfl) (by decide))), (zFr_g hF_s7 (zr (k := 45) (t2 := 98) hG ha rfl) (by decide))]) dX12_judges_267 ?_
                    refine j_iast hx hG (zr (k := 30) (t2 := 87) hG ha rfl) (by decide) rfl (zlen hG (zr (k := 30) (t2 := 87) hG ha rfl) (n := 5) rfl rfl) (by omega) (by omega) (j := 2) rfl dX12_judges_268 ?_
                    obtain ⟨s60, e_s60⟩ : ∃ z, z = zU s59 (gP G a 30) 2 ((s0 (gP G a 45) (v1).toNat)) := ⟨_, rfl⟩
                    rw [← e_s60]
                    have hS_s60 : zSK G s60 := by rw [e_s60]; exact zSK_A hS_s59 (zr (k := 30) (t2 := 87) hG ha rfl) rfl rfl rfl (by omega)
                    refine j_iload hx 2 dX12_judges_269 rfl ?_
                    refine j_iconst hx dX12_judges_271 ?_
                    refine j_icmp_ne hx 287 dX12_judges_272 rfl ⟨by decide, by decide⟩ ⟨by decide, by decide⟩ (fun h93 => ?_) (fun h93 => absurd h93 (by omega))
                    refine j_aload_n hx 0 dX12_judges_287 rfl ?_
                    have f94 := zf hS0 ha (k := 44) rfl
                    refine g13_44 hx hG ha kf_RX12_377 (v := (s0 a 44)) (by rw [e_s60, zU_at (Or.inl (zne (zr (k := 30) (t2 := 87) hG ha rfl) ha (by decide))), e_s59, zU_at (Or.inl (zne (zr (k := 30) (t2 := 87) hG ha rfl) ha (by decide))), e_s11, zU_at (Or.inl (zne (zr (k := 30) (t2 := 87) hG ha rfl) ha (by decide))), (zFr_g hF_s7 ha (by decide))]) dX12_judges_288 ?_
                    have c312_61 : ∀ (v95 : Int), (0 ≤ v95 ∧ v95 ≤ 1) → JJ X E 6 G s60 0 0 [(0, .ref a), (1, .int (zI v1)), (4, .int (zI 2))] 312 [.int (zI v95)] := by
                      intro v95 fA62
                      refine j_istore hx [(5, .int (zI v95)), (0, .ref a), (1, .int (zI v1)), (4, .int (zI 2))] dX12_judges_312 (by decide) rfl ?_
                      refine j_aload_n hx 1 dX12_judges_314 rfl ?_
                      refine j_iload_n hx 2 dX12_judges_315 rfl ?_
                      refine j_aload_n hx 1 dX12_judges_316 rfl ?_
                      refine g13_45 hx hG ha kf_RX12_99 dX12_judges_317 ?_
                      refine j_iload_n hx 2 dX12_judges_320 rfl ?_
                      refine j_iald hx hG (zr (k := 45) (t2 := 98) hG ha rfl) (by decide) rfl (zlen hG (zr (k := 45) (t2 := 98) hG ha rfl) (n := 3) rfl rfl) (by omega) (by omega) (j := (v1).toNat) rfl (v := (s0 (gP G a 45) (v1).toNat)) (by rw [e_s60, zU_at (Or.inl (zne (zr (k := 30) (t2 := 87) hG ha rfl) (zr (k := 45) (t2 := 98) hG ha rfl) (by decide))), e_s59, zU_at (Or.inl (zne (zr (k := 30) (t2 := 87) hG ha rfl) (zr (k := 45) (t2 := 98) hG ha rfl) (by decide))), e_s11, zU_at (Or.inl (zne (zr (k := 30) (t2 := 87) hG ha rfl) (zr (k := 45) (t2 := 98) hG ha rfl) (by decide))), (zFr_g hF_s7 (zr (k := 45) (t2 := 98) hG ha rfl) (by decide))]) dX12_judges_321 ?_
                      have c339_63 : ∀ (v96 : Int), (0 ≤ v96 ∧ v96 ≤ 2) → JJ X E 6 G s60 0 0 [(0, .ref a), (1, .int (zI v1)), (4, .int (zI 2))] 339 [.int (zI v96), .int (zI v1), .ref a] := by
                        intro v96 fA64
                        have g97 : zc (s60 (gP G a 27)) = zc (s0 (gP G a 27)) := by rw [e_s60, zU_ne (zne (zr (k := 27) (t2 := 84) hG ha rfl) (zr (k := 30) (t2 := 87) hG ha rfl) (by decide)), e_s59, zU_ne (zne (zr (k := 27) (t2 := 84) hG ha rfl) (zr (k := 30) (t2 := 87) hG ha rfl) (by decide)), e_s11, zU_ne (zne (zr (k := 27) (t2 := 84) hG ha rfl) (zr (k := 30) (t2 := 87) hG ha rfl) (by decide)), (zFr_g hF_s7 (zr (k := 27) (t2 := 84) hG ha rfl) (by decide))]
                        have g98 : s60 (gP G a 27) 488 = s0 (gP G a 27) 488 := (by rw [e_s60, zU_at (Or.inl (zne (zr (k := 30) (t2 := 87) hG ha rfl) (zr (k := 27) (t2 := 84) hG ha rfl) (by decide))), e_s59, zU_at (Or.inl (zne (zr (k := 30) (t2 := 87) hG ha rfl) (zr (k := 27) (t2 := 84) hG ha rfl) (by decide))), e_s11, zU_at (Or.inl (zne (zr (k := 30) (t2 := 87) hG ha rfl) (zr (k := 27) (t2 := 84) hG ha rfl) (by decide))), (zFr_g hF_s7 (zr (k := 27) (t2 := 84) hG ha rfl) (by decide))])
                        refine j_callV hx hG (c_X12_counts hst a v1 v96) lk_RX12_388 ha (by decide) rfl rfl rfl rfl [.int (zI v1), .int (zI v96)] ⟨rfl, hG, hS_s60, ha, (by omega), (by omega)⟩ rfl rfl ⟨by decide, by decide⟩ ⟨by decide, by decide⟩ (k2 := 0) (n2 := 0) rfl rfl (Nat.le_of_ble_eq_true rfl) dX12_judges_339 (kVM (fun s65 hS_s65 hF_s65 q100 => ?_))
                        refine j_aload_n hx 0 dX12_judges_342 rfl ?_
                        refine g13_30 hx hG ha kf_RX12_65 dX12_judges_343 ?_
                        refine j_iconst hx dX12_judges_346 ?_
                        refine j_iload_n hx 1 dX12_judges_347 rfl ?_
                        refine j_iast hx hG (zr (k := 30) (t2 := 87) hG ha rfl) (by decide) rfl (zlen hG (zr (k := 30) (t2 := 87) hG ha rfl) (n := 5) rfl rfl) (by omega) (by omega) (j := 0) rfl dX12_judges_348 ?_
                        obtain ⟨s66, e_s66⟩ : ∃ z, z = zU s65 (gP G a 30) 0 v1 := ⟨_, rfl⟩
                        rw [← e_s66]
                        have hS_s66 : zSK G s66 := by rw [e_s66]; exact zSK_A hS_s65 (zr (k := 30) (t2 := 87) hG ha rfl) rfl rfl rfl (by omega)
                        refine j_aload_n hx 0 dX12_judges_349 rfl ?_
                        refine g13_30 hx hG ha kf_RX12_65 dX12_judges_350 ?_
                        refine j_iconst hx dX12_judges_353 ?_
                        refine j_aload_n hx 0 dX12_judges_354 rfl ?_
                        refine j_iload_n hx 1 dX12_judges_355 rfl ?_
                        refine j_iload hx 2 dX12_judges_356 rfl ?_
                        have g101 : zc (s66 (gP G a 27)) = zc (s65 (gP G a 27)) := by rw [e_s66, zU_ne (zne (zr (k := 27) (t2 := 84) hG ha rfl) (zr (k := 30) (t2 := 87) hG ha rfl) (by decide))]
                        have g102 : s66 (gP G a 27) 488 = s65 (gP G a 27) 488 := (by rw [e_s66, zU_at (Or.inl (zne (zr (k := 30) (t2 := 87) hG ha rfl) (zr (k := 27) (t2 := 84) hG ha rfl) (by decide)))])
                        refine j_callV hx hG (c_X12_wins hst a v1 2) lk_RX12_394 ha (by decide) rfl rfl rfl rfl [.int (zI v1), .int (zI 2)] ⟨rfl, hG, hS_s66, ha, (by omega), (by omega), (by omega), (by omega)⟩ rfl rfl ⟨by decide, by decide⟩ ⟨by decide, by decide⟩ (k2 := 0) (n2 := 0) rfl rfl (Nat.le_of_ble_eq_true rfl) dX12_judges_358 (kIM (fun v103 s67 hS_s67 hF_s67 q104 => ?_))
                        refine j_iast hx hG (zr (k := 30) (t2 := 87) hG ha rfl) (by decide) rfl (zlen hG (zr (k := 30) (t2 := 87) hG ha rfl) (n := 5) rfl rfl) (by omega) (by omega) (j := 4) rfl dX12_judges_361 ?_
                        obtain ⟨s68, e_s68⟩ : ∃ z, z = zU s67 (gP G a 30) 4 v103 := ⟨_, rfl⟩
                        rw [← e_s68]
                        have hS_s68 : zSK G s68 := by rw [e_s68]; exact zSK_A hS_s67 (zr (k := 30) (t2 := 87) hG ha rfl) rfl rfl rfl (by omega)
                        refine j_aload_n hx 0 dX12_judges_362 rfl ?_
                        refine g13_27 hx hG ha kf_RX12_56 dX12_judges_363 ?_
                        refine j_sipush hx dX12_judges_366 rfl ?_
                        refine j_iload_n hx 1 dX12_judges_369 rfl ?_
                        refine j_iadd hx (r := v1 + 512) dX12_judges_370 (by omega) ?_
                        refine j_dup2 hx dX12_judges_371 rfl rfl ?_
                        have f105 := zaQ (j := (v1 + 512).toNat) hS_s67 (zr (k := 27) (t2 := 84) hG ha rfl) (congrArg some (axS_8 (v1 + 512).toNat (by omega))) (zlen hG (zr (k := 27) (t2 := 84) hG ha rfl) (n := 515) rfl rfl) (show 0 ≤ v1 + 512 by omega) (by omega) rfl
                        refine j_iald hx hG (zr (k := 27) (t2 := 84) hG ha rfl) (by decide) rfl (zlen hG (zr (k := 27) (t2 := 84) hG ha rfl) (n := 515) rfl rfl) (by omega) (by omega) (j := (v1 + 512).toNat) rfl (v := (s67 (gP G a 27) (v1 + 512).toNat)) (by rw [e_s68, zU_at (Or.inl (zne (zr (k := 30) (t2 := 87) hG ha rfl) (zr (k := 27) (t2 := 84) hG ha rfl) (by decide)))]) dX12_judges_372 ?_
                        refine j_aload_n hx 0 dX12_judges_373 rfl ?_
                        refine g13_30 hx hG ha kf_RX12_65 dX12_judges_374 ?_
                        refine j_iconst hx dX12_judges_377 ?_
                        refine j_iald hx hG (zr (k := 30) (t2 := 87) hG ha rfl) (by decide) rfl (zlen hG (zr (k := 30) (t2 := 87) hG ha rfl) (n := 5) rfl rfl) (by omega) (by omega) (j := 4) rfl (v := v103) (by rw [e_s68, zU_eq]) dX12_judges_378 ?_
                        refine j_iadd hx (r := (s67 (gP G a 27) (v1 + 512).toNat) + v103) dX12_judges_379 (by omega) ?_
                        refine j_norm (fun v106 f107 f108 f109 => ?_)
                        refine j_iast hx hG (zr (k := 27) (t2 := 84) hG ha rfl) (by decide) rfl (zlen hG (zr (k := 27) (t2 := 84) hG ha rfl) (n := 515) rfl rfl) (by omega) (by omega) (j := (v1 + 512).toNat) rfl dX12_judges_380 ?_
                        obtain ⟨s69, e_s69⟩ : ∃ z, z = zU s68 (gP G a 27) (v1 + 512).toNat v106 := ⟨_, rfl⟩
                        rw [← e_s69]
                        have hS_s69 : zSK G s69 := by rw [e_s69]; exact zSK_a hS_s68 (zr (k := 27) (t2 := 84) hG ha rfl) rfl rfl (congrArg some (axS_8 (v1 + 512).toNat (by omega))) (by omega)
                        have g111 : zc (s68 (gP G a 27)) = zc (s67 (gP G a 27)) := by rw [e_s68, zU_ne (zne (zr (k := 27) (t2 := 84) hG ha rfl) (zr (k := 30) (t2 := 87) hG ha rfl) (by decide))]
                        have z110 : zc (s69 (gP G a 27)) = zc (s68 (gP G a 27)) := by rw [e_s69]; exact zc_o (by omega)
                        have g112 : s69 (gP G a 27) 488 = s67 (gP G a 27) 488 := (by rw [e_s69, zU_at (Or.inr (by omega)), e_s68, zU_at (Or.inl (zne (zr (k := 30) (t2 := 87) hG ha rfl) (zr (k := 27) (t2 := 84) hG ha rfl) (by decide)))])
                        exact j_vret hx hq rfl (by decide) (by decide) dX12_judges_381 ⟨rfl, rfl, hS_s69, (zFr_u (zFr_u (zFr_t (zFr_u (zFr_t (zFr_u (zFr_u (zFr_u (zFr_t zFr_rf hF_s7 (by decide)) e_s11 (zr (k := 30) (t2 := 87) hG ha rfl) (by decide)) e_s59 (zr (k := 30) (t2 := 87) hG ha rfl) (by decide)) e_s60 (zr (k := 30) (t2 := 87) hG ha rfl) (by decide)) hF_s65 (by decide)) e_s66 (zr (k := 30) (t2 := 87) hG ha rfl) (by decide)) hF_s67 (by decide)) e_s68 (zr (k := 30) (t2 := 87) hG ha rfl) (by decide)) e_s69 (zr (k := 27) (t2 := 84) hG ha rfl) (by decide)), ⟨by omega, by omega⟩⟩
                      refine j_if_lt hx 329 dX12_judges_322 rfl (by omega) (fun h113 => ?_) (fun h113 => ?_)
                      · skip
                        refine j_iload hx 0 dX12_judges_329 rfl ?_
                        refine j_if_eq hx 338 dX12_judges_331 rfl (by omega) (fun h114 => ?_) (fun h114 => ?_)
                        · skip
                          refine j_iconst hx dX12_judges_338 ?_
                          exact j_sub [1, 2, 3] [(0, .ref a), (1, .int (zI v1)), (4, .int (zI 2))] rfl (c339_63 1 (by omega))
                        · skip
                          refine j_iconst hx dX12_judges_334 ?_
                          refine j_goto hx 339 dX12_judges_335 rfl ?_
                          exact j_sub [1, 2, 3] [(0, .ref a), (1, .int (zI v1)), (4, .int (zI 2))] rfl (c339_63 2 (by omega))
                      · skip
                        refine j_iconst hx dX12_judges_325 ?_
                        refine j_goto hx 339 dX12_judges_326 rfl ?_
                        exact j_sub [1, 2, 3] [(0, .ref a), (1, .int (zI v1)), (4, .int (zI 2))] rfl (c339_63 0 (by omega))
                    have c311_70 : JJ X E 6 G s60 0 0 [(0, .ref a), (1, .int (zI v1)), (4, .int (zI 2))] 311 [] := by
                      refine j_iconst hx dX12_judges_311 ?_
                      exact j_sub [0, 1, 2] [(0, .ref a), (1, .int (zI v1)), (4, .int (zI 2))] rfl (c312_61 0 (by omega))
                    refine j_if_eq hx 311 dX12_judges_291 rfl (by omega) (fun h115 => ?_) (fun h115 => ?_)
                    · skip
                      exact j_sub [0, 1, 2] [(0, .ref a), (1, .int (zI v1)), (4, .int (zI 2))] rfl (c311_70  )
                    · skip
                      refine j_aload_n hx 0 dX12_judges_294 rfl ?_
                      refine g13_17 hx hG ha kf_RX12_44 dX12_judges_295 ?_
                      refine j_iconst hx dX12_judges_298 ?_
                      refine j_iload_n hx 1 dX12_judges_299 rfl ?_
                      refine j_imul hx (r := 4 * v1) dX12_judges_300 rfl ?_
                      refine j_iconst hx dX12_judges_301 ?_
                      refine j_iadd hx (r := 4 * v1 + 1) dX12_judges_302 (by omega) ?_
                      have f116 := zaI (j := (4 * v1 + 1).toNat) hS0 (zr (k := 17) (t2 := 80) hG ha rfl) rfl (zlen hG (zr (k := 17) (t2 := 80) hG ha rfl) (n := 12) rfl rfl) (show 0 ≤ 4 * v1 + 1 by omega) (by omega) rfl
                      refine j_iald hx hG (zr (k := 17) (t2 := 80) hG ha rfl) (by decide) rfl (zlen hG (zr (k := 17) (t2 := 80) hG ha rfl) (n := 12) rfl rfl) (by omega) (by omega) (j := (4 * v1 + 1).toNat) rfl (v := (s0 (gP G a 17) (4 * v1 + 1).toNat)) (by rw [e_s60, zU_at (Or.inl (zne (zr (k := 30) (t2 := 87) hG ha rfl) (zr (k := 17) (t2 := 80) hG ha rfl) (by decide))), e_s59, zU_at (Or.inl (zne (zr (k := 30) (t2 := 87) hG ha rfl) (zr (k := 17) (t2 := 80) hG ha rfl) (by decide))), e_s11, zU_at (Or.inl (zne (zr (k := 30) (t2 := 87) hG ha rfl) (zr (k := 17) (t2 := 80) hG ha rfl) (by decide))), (zFr_g hF_s7 (zr (k := 17) (t2 := 80) hG ha rfl) (by decide))]) dX12_judges_303 ?_
                      refine j_if_le hx 311 dX12_judges_304 rfl (by omega) (fun h117 => ?_) (fun h117 => ?_)
                      · skip
                        exact j_sub [0, 1, 2] [(0, .ref a), (1, .int (zI v1)), (4, .int (zI 2))] rfl (c311_70  )
                      · skip
                        refine j_iconst hx dX12_judges_307 ?_
                        refine j_goto hx 312 dX12_judges_308 rfl ?_
                        exact j_sub [0, 1, 2] [(0, .ref a), (1, .int (zI v1)), (4, .int (zI 2))] rfl (c312_61 1 (by omega))
                  refine j_icmp_le hx 250 dX12_judges_146 rfl (by omega) ⟨by decide, by decide⟩ (fun h118 => ?_) (fun h118 => ?_)
                  · skip
                    exact j_sub [1, 2, 0] [(0, .ref a), (1, .int (zI v1)), (4, .int (zI 2))] rfl (c250_58  )
                  · skip
                    refine j_aload_n hx 1 dX12_judges_149 rfl ?_
                    refine g13_27 hx hG ha kf_RX12_56 dX12_judges_150 ?_
                    refine j_sipush hx dX12_judges_153 rfl ?_
                    have f119 := zaQ (j := 492) hS0 (zr (k := 27) (t2 := 84) hG ha rfl) (congrArg some (axS_7 492 (by omega))) (zlen hG (zr (k := 27) (t2 := 84) hG ha rfl) (n := 515) rfl rfl) (show 0 ≤ 492 by omega) (by omega) rfl
                    refine j_iald hx hG (zr (k := 27) (t2 := 84) hG ha rfl) (by decide) rfl (zlen hG (zr (k := 27) (t2 := 84) hG ha rfl) (n := 515) rfl rfl) (by omega) (by omega) (j := 492) rfl (v := (s0 (gP G a 27) 492)) (by rw [e_s11, zU_at (Or.inl (zne (zr (k := 30) (t2 := 87) hG ha rfl) (zr (k := 27) (t2 := 84) hG ha rfl) (by decide))), (zFr_g hF_s7 (zr (k := 27) (t2 := 84) hG ha rfl) (by decide))]) dX12_judges_156 ?_
                    refine j_if_le hx 250 dX12_judges_157 rfl (by omega) (fun h120 => ?_) (fun h120 => ?_)
                    · skip
                      exact j_sub [1, 2, 0] [(0, .ref a), (1, .int (zI v1)), (4, .int (zI 2))] rfl (c250_58  )
                    · skip
                      refine j_iconst hx dX12_judges_160 ?_
                      refine j_istore hx [(5, .int (zI 0)), (4, .int (zI 2)), (0, .ref a), (1, .int (zI v1)), (2, .int (zI v2)), (3, .int (zI v3))] dX12_judges_161 (by decide) rfl ?_
                      have g122 : s11 (gP G a 27) 488 = s0 (gP G a 27) 488 := (by rw [e_s11, zU_at (Or.inl (zne (zr (k := 30) (t2 := 87) hG ha rfl) (zr (k := 27) (t2 := 84) hG ha rfl) (by decide))), (zFr_g hF_s7 (zr (k := 27) (t2 := 84) hG ha rfl) (by decide))])
                      have g123 : zc (s11 (gP G a 27)) = zc (s0 (gP G a 27)) := by rw [e_s11, zU_ne (zne (zr (k := 27) (t2 := 84) hG ha rfl) (zr (k := 30) (t2 := 87) hG ha rfl) (by decide)), (zFr_g hF_s7 (zr (k := 27) (t2 := 84) hG ha rfl) (by decide))]
                      have c163_71 : ∀ (m_c163_71 : Nat) (v121 : Int) (s72 : zS), 2147483648 - v121 < m_c163_71 → (0 ≤ v121 ∧ v121 ≤ 3) → (zSK G s72) → (zFr [84] G s11 s72) → (zc (s72 (gP G a 27)) = zc (s11 (gP G a 27))) → (s72 (gP G a 27) 488 = s11 (gP G a 27) 488) → JJ X E 6 G s72 0 0 [(0, .ref a), (1, .int (zI v1)), (4, .int (zI 2)), (5, .int (zI v121))] 163 [] := by
                        intro m_c163_71
                        induction m_c163_71 with
                        | zero => intro v121 s72 hm_c163_71 fA73 hS_s72 hF_s72 fA76 fA77; exfalso; omega
                        | succ m_c163_71 ih_c163_71 => 
                          intro v121 s72 hm_c163_71 fA73 hS_s72 hF_s72 fA76 fA77
                          refine j_iload hx 3 dX12_judges_163 rfl ?_
                          refine j_aload_n hx 0 dX12_judges_165 rfl ?_
                          refine g13_24 hx hG ha kf_RX12_189 (v := (s0 a 24)) (by rw [(zFr_g hF_s72 ha (by decide)), e_s11, zU_at (Or.inl (zne (zr (k := 30) (t2 := 87) hG ha rfl) ha (by decide))), (zFr_g hF_s7 ha (by decide))]) dX12_judges_166 ?_
                          refine j_icmp_ge hx 201 dX12_judges_169 rfl (by omega) (by omega) (fun h124 => ?_) (fun h124 => ?_)
                          · skip
                            refine j_aload_n hx 0 dX12_judges_201 rfl ?_
                            refine g13_27 hx hG ha kf_RX12_56 dX12_judges_202 ?_
                            refine j_sipush hx dX12_judges_205 rfl ?_
                            have f125 := zaQ (j := 492) hS_s72 (zr (k := 27) (t2 := 84) hG ha rfl) (congrArg some (axS_7 492 (by omega))) (zlen hG (zr (k := 27) (t2 := 84) hG ha rfl) (n := 515) rfl rfl) (show 0 ≤ 492 by omega) (by omega) rfl
                            refine j_iald hx hG (zr (k := 27) (t2 := 84) hG ha rfl) (by decide) rfl (zlen hG (zr (k := 27) (t2 := 84) hG ha rfl) (n := 515) rfl rfl) (by omega) (by omega) (j := 492) rfl rfl dX12_judges_208 ?_
                            refine j_iconst hx dX12_judges_209 ?_
                            refine j_icmp_ne hx 249 dX12_judges_210 rfl (by omega) ⟨by decide, by decide⟩ (fun h126 => ?_) (fun h126 => ?_)
                            · skip
                              exact j_vret hx hq rfl (by decide) (by decide) dX12_judges_249 ⟨rfl, rfl, hS_s72, (zFr_t (zFr_u (zFr_t zFr_rf hF_s7 (by decide)) e_s11 (zr (k := 30) (t2 := 87) hG ha rfl) (by decide)) hF_s72 (by decide)), ⟨by omega, by omega⟩⟩
                            · skip
                              refine j_iload hx 2 dX12_judges_213 rfl ?_
                              refine j_iconst hx dX12_judges_215 ?_
                              refine j_icmp_eq hx 249 dX12_judges_216 rfl ⟨by decide, by decide⟩ ⟨by decide, by decide⟩ (fun h127 => absurd h127 (by omega)) (fun h127 => ?_)
                              refine j_aload_n hx 0 dX12_judges_219 rfl ?_
                              refine j_iload hx 2 dX12_judges_220 rfl ?_
                              refine j_bipush hx dX12_judges_222 rfl ?_
                              refine j_idiv hx dX12_judges_224 ⟨by decide, by decide⟩ ⟨by decide, by decide⟩ (by decide) (fun v128 f129 f130 f131 => ?_)
                              refine j_sipush hx dX12_judges_225 rfl ?_
                              refine j_sipush hx dX12_judges_228 rfl ?_
                              refine j_callV hx hG (c_X12_comes hst a v128 360 486) lk_RX12_365 ha (by decide) rfl rfl rfl rfl [.int (zI v128), .int (zI 360), .int (zI 486)] ⟨rfl, hG, hS_s72, ha, (by omega), (by omega), (by omega), (by omega), (by omega)⟩ rfl rfl ⟨by decide, by decide⟩ ⟨by decide, by decide⟩ (k2 := 0) (n2 := 0) rfl rfl (Nat.le_of_ble_eq_true rfl) dX12_judges_231 (kVM (fun s78 hS_s78 hF_s78 q135 => ?_))
                              refine j_aload_n hx 0 dX12_judges_234 rfl ?_
                              refine j_iload hx 2 dX12_judges_235 rfl ?_
                              refine j_bipush hx dX12_judges_237 rfl ?_
                              refine j_irem hx dX12_judges_239 ⟨by decide, by decide⟩ ⟨by decide, by decide⟩ (by decide) (fun v136 f137 f138 f139 f140 => ?_)
                              refine j_sipush hx dX12_judges_240 rfl ?_
                              refine j_sipush hx dX12_judges_243 rfl ?_
                              refine j_callV hx hG (c_X12_comes hst a v136 360 486) lk_RX12_365 ha (by decide) rfl rfl rfl rfl [.int (zI v136), .int (zI 360), .int (zI 486)] ⟨rfl, hG, hS_s78, ha, (by omega), (by omega), (by omega), (by omega), (by omega)⟩ rfl rfl ⟨by decide, by decide⟩ ⟨by decide, by decide⟩ (k2 := 0) (n2 := 0) rfl rfl (Nat.le_of_ble_eq_true rfl) dX12_judges_246 (kVM (fun s79 hS_s79 hF_s79 q143 => ?_))
                              exact j_vret hx hq rfl (by decide) (by decide) dX12_judges_249 ⟨rfl, rfl, hS_s79, (zFr_t (zFr_t (zFr_t (zFr_u (zFr_t zFr_rf hF_s7 (by decide)) e_s11 (zr (k := 30) (t2 := 87) hG ha rfl) (by decide)) hF_s72 (by decide)) hF_s78 (by decide)) hF_s79 (by decide)), ⟨by omega, by omega⟩⟩
                          · skip
                            refine j_aload_n hx 0 dX12_judges_172 rfl ?_
                            refine g13_45 hx hG ha kf_RX12_99 dX12_judges_173 ?_
                            refine j_iload hx 3 dX12_judges_176 rfl ?_
                            have f144 := zaI (j := (v121).toNat) hS0 (zr (k := 45) (t2 := 98) hG ha rfl) rfl (zlen hG (zr (k := 45) (t2 := 98) hG ha rfl) (n := 3) rfl rfl) (show 0 ≤ v121 by omega) (by omega) rfl
                            refine j_iald hx hG (zr (k := 45) (t2 := 98) hG ha rfl) (by decide) rfl (zlen hG (zr (k := 45) (t2 := 98) hG ha rfl) (n := 3) rfl rfl) (by omega) (by omega) (j := (v121).toNat) rfl (v := (s0 (gP G a 45) (v121).toNat)) (by rw [(zFr_g hF_s72 (zr (k := 45) (t2 := 98) hG ha rfl) (by decide)), e_s11, zU_at (Or.inl (zne (zr (k := 30) (t2 := 87) hG ha rfl) (zr (k := 45) (t2 := 98) hG ha rfl) (by decide))), (zFr_g hF_s7 (zr (k := 45) (t2 := 98) hG ha rfl) (by decide))]) dX12_judges_178 ?_
                            refine j_aload_n hx 0 dX12_judges_179 rfl ?_
                            refine g13_45 hx hG ha kf_RX12_99 dX12_judges_180 ?_
                            refine j_iload_n hx 1 dX12_judges_183 rfl ?_
                            have f145 := zaI (j := (v1).toNat) hS0 (zr (k := 45) (t2 := 98) hG ha rfl) rfl (zlen hG (zr (k := 45) (t2 := 98) hG ha rfl) (n := 3) rfl rfl) (show 0 ≤ v1 by omega) (by omega) rfl
                            refine j_iald hx hG (zr (k := 45) (t2 := 98) hG ha rfl) (by decide) rfl (zlen hG (zr (k := 45) (t2 := 98) hG ha rfl) (n := 3) rfl rfl) (by omega) (by omega) (j := (v1).toNat) rfl (v := (s0 (gP G a 45) (v1).toNat)) (by rw [(zFr_g hF_s72 (zr (k := 45) (t2 := 98) hG ha rfl) (by decide)), e_s11, zU_at (Or.inl (zne (zr (k := 30) (t2 := 87) hG ha rfl) (zr (k := 45) (t2 := 98) hG ha rfl) (by decide))), (zFr_g hF_s7 (zr (k := 45) (t2 := 98) hG ha rfl) (by decide))]) dX12_judges_184 ?_
                            have c195_80 : ∀ (s81 : zS), (zSK G s81) → (zFr [84] G s72 s81) → (zc (s81 (gP G a 27)) = zc (s72 (gP G a 27))) → JJ X E 6 G s81 0 0 [(0, .ref a), (1, .int (zI v1)), (4, .int (zI 2)), (5, .int (zI v121))] 195 [] := by
                              intro s81 hS_s81 hF_s81 fA84
                              refine j_iinc hx 3 [(5, .int (zI (v121 + 1))), (0, .ref a), (1, .int (zI v1)), (4, .int (zI 2))] dX12_judges_195 rfl (by omega) (by decide) rfl ?_
                              refine j_goto hx 163 dX12_judges_198 rfl ?_
                              exact j_sub [1, 2, 3, 0] [(0, .ref a), (1, .int (zI v1)), (4, .int (zI 2)), (5, .int (zI (v121 + 1)))] rfl (ih_c163_71 (v121 + 1) s81 (by omega) (by omega) hS_s81 (zFr_t (zFr_t zFr_rf hF_s72 (by decide)) hF_s81 (by decide)) (by omega) (by omega))
                            refine j_icmp_ne hx 195 dX12_judges_185 rfl (by omega) (by omega) (fun h146 => ?_) (fun h146 => ?_)
                            · skip
                              exact j_sub [0, 1, 2, 3] [(0, .ref a), (1, .int (zI v1)), (4, .int (zI 2)), (5, .int (zI v121))] rfl (c195_80 s72 hS_s72 zFr_rf (by omega))
                            · skip
                              refine j_aload_n hx 0 dX12_judges_188 rfl ?_
                              refine j_iload hx 3 dX12_judges_189 rfl ?_
                              refine j_iconst hx dX12_judges_191 ?_
                              refine j_callV hx hG (c_X12_counts hst a v121 4) lk_RX12_388 ha (by decide) rfl rfl rfl rfl [.int (zI v121), .int (zI 4)] ⟨rfl, hG, hS_s72, ha, (by omega), (by omega)⟩ rfl rfl ⟨by decide, by decide⟩ ⟨by decide, by decide⟩ (k2 := 0) (n2 := 0) rfl rfl (Nat.le_of_ble_eq_true rfl) dX12_judges_192 (kVM (fun s85 hS_s85 hF_s85 q148 => ?_))
                              exact j_sub [0, 1, 2, 3] [(0, .ref a), (1, .int (zI v1)), (4, .int (zI 2)), (5, .int (zI v121))] rfl (c195_80 s85 hS_s85 (zFr_t zFr_rf hF_s85 (by decide)) (by omega))
                      exact j_sub [2, 3, 1, 0] [(0, .ref a), (1, .int (zI v1)), (4, .int (zI 2)), (5, .int (zI 0))] rfl (c163_71 (2147483648 * 4) 0 s11 (by omega) (by omega) hS_s11 zFr_rf (by omega) (by omega))
                · skip
                  refine j_iload_n hx 4 dX12_judges_144 rfl ?_
                  refine j_iconst hx dX12_judges_145 ?_
                  have c250_86 : JJ X E 6 G s11 0 0 [(0, .ref a), (1, .int (zI v1)), (4, .int (zI 12))] 250 [] := by
                    refine j_aload_n hx 0 dX12_judges_250 rfl ?_
                    refine g13_30 hx hG ha kf_RX12_65 dX12_judges_251 ?_
                    refine j_iconst hx dX12_judges_254 ?_
                    refine j_iload_n hx 1 dX12_judges_255 rfl ?_
                    refine j_iast hx hG (zr (k := 30) (t2 := 87) hG ha rfl) (by decide) rfl (zlen hG (zr (k := 30) (t2 := 87) hG ha rfl) (n := 5) rfl rfl) (by omega) (by omega) (j := 1) rfl dX12_judges_256 ?_
                    obtain ⟨s87, e_s87⟩ : ∃ z, z = zU s11 (gP G a 30) 1 v1 := ⟨_, rfl⟩
                    rw [← e_s87]
                    have hS_s87 : zSK G s87 := by rw [e_s87]; exact zSK_A hS_s11 (zr (k := 30) (t2 := 87) hG ha rfl) rfl rfl rfl (by omega)
                    refine j_aload_n hx 0 dX12_judges_257 rfl ?_
                    refine g13_30 hx hG ha kf_RX12_65 dX12_judges_258 ?_
                    refine j_iconst hx dX12_judges_261 ?_
                    refine j_aload_n hx 0 dX12_judges_262 rfl ?_
                    refine g13_45 hx hG ha kf_RX12_99 dX12_judges_263 ?_
                    refine j_iload_n hx 1 dX12_judges_266 rfl ?_
                    have f149 := zaI (j := (v1).toNat) hS0 (zr (k := 45) (t2 := 98) hG ha rfl) rfl (zlen hG (zr (k := 45) (t2 := 98) hG ha rfl) (n := 3) rfl rfl) (show 0 ≤ v1 by omega) (by omega) rfl
                    refine j_iald hx hG (zr (k := 45) (t2 := 98) hG ha rfl) (by decide) rfl (zlen hG (zr (k := 45) (t2 := 98) hG ha rfl) (n := 3) rfl rfl) (by omega) (by omega) (j := (v1).toNat) rfl (v := (s0 (gP G a 45) (v1).toNat)) (by rw [e_s87, zU_at (Or.inl (zne (zr (k := 30) (t2 := 87) hG ha rfl) (zr (k := 45) (t2 := 98) hG ha rfl) (by decide))), e_s11, zU_at (Or.inl (zne (zr (k := 30) (t2 := 87) hG ha rfl) (zr (k := 45) (t2 := 98) hG ha rfl) (by decide))), (zFr_g hF_s7 (zr (k := 45) (t2 := 98) hG ha rfl) (by decide))]) dX12_judges_267 ?_
                    refine j_iast hx hG (zr (k := 30) (t2 := 87) hG ha rfl) (by decide) rfl (zlen hG (zr (k := 30) (t2 := 87) hG ha rfl) (n := 5) rfl rfl) (by omega) (by omega) (j := 2) rfl dX12_judges_268 ?_
                    obtain ⟨s88, e_s88⟩ : ∃ z, z = zU s87 (gP G a 30) 2 ((s0 (gP G a 45) (v1).toNat)) := ⟨_, rfl⟩
                    rw [← e_s88]
                    have hS_s88 : zSK G s88 := by rw [e_s88]; exact zSK_A hS_s87 (zr (k := 30) (t2 := 87) hG ha rfl) rfl rfl rfl (by omega)
                    refine j_iload hx 2 dX12_judges_269 rfl ?_
                    refine j_iconst hx dX12_judges_271 ?_
                    refine j_icmp_ne hx 287 dX12_judges_272 rfl ⟨by decide, by decide⟩ ⟨by decide, by decide⟩ (fun h150 => ?_) (fun h150 => absurd h150 (by omega))
                    refine j_aload_n hx 0 dX12_judges_287 rfl ?_
                    have f151 := zf hS0 ha (k := 44) rfl
                    refine g13_44 hx hG ha kf_RX12_377 (v := (s0 a 44)) (by rw [e_s88, zU_at (Or.inl (zne (zr (k := 30) (t2 := 87) hG ha rfl) ha (by decide))), e_s87, zU_at (Or.inl (zne (zr (k := 30) (t2 := 87) hG ha rfl) ha (by decide))), e_s11, zU_at (Or.inl (zne (zr (k := 30) (t2 := 87) hG ha rfl) ha (by decide))), (zFr_g hF_s7 ha (by decide))]) dX12_judges_288 ?_
                    have c312_89 : ∀ (v152 : Int), (0 ≤ v152 ∧ v152 ≤ 1) → JJ X E 6 G s88 0 0 [(0, .ref a), (1, .int (zI v1)), (4, .int (zI 12))] 312 [.int (zI v152)] := by
                      intro v152 fA90
                      refine j_istore hx [(5, .int (zI v152)), (0, .ref a), (1, .int (zI v1)), (4, .int (zI 12))] dX12_judges_312 (by decide) rfl ?_
                      refine j_aload_n hx 1 dX12_judges_314 rfl ?_
                      refine j_iload_n hx 2 dX12_judges_315 rfl ?_
                      refine j_aload_n hx 1 dX12_judges_316 rfl ?_
                      refine g13_45 hx hG ha kf_RX12_99 dX12_judges_317 ?_
                      refine j_iload_n hx 2 dX12_judges_320 rfl ?_
                      refine j_iald hx hG (zr (k := 45) (t2 := 98) hG ha rfl) (by decide) rfl (zlen hG (zr (k := 45) (t2 := 98) hG ha rfl) (n := 3) rfl rfl) (by omega) (by omega) (j := (v1).toNat) rfl (v := (s0 (gP G a 45) (v1).toNat)) (by rw [e_s88, zU_at (Or.inl (zne (zr (k := 30) (t2 := 87) hG ha rfl) (zr (k := 45) (t2 := 98) hG ha rfl) (by decide))), e_s87, zU_at (Or.inl (zne (zr (k := 30) (t2 := 87) hG ha rfl) (zr (k := 45) (t2 := 98) hG ha rfl) (by decide))), e_s11, zU_at (Or.inl (zne (zr (k := 30) (t2 := 87) hG ha rfl) (zr (k := 45) (t2 := 98) hG ha rfl) (by decide))), (zFr_g hF_s7 (zr (k := 45) (t2 := 98) hG ha rfl) (by decide))]) dX12_judges_321 ?_
                      have c339_91 : ∀ (v153 : Int), (0 ≤ v153 ∧ v153 ≤ 2) → JJ X E 6 G s88 0 0 [(0, .ref a), (1, .int (zI v1)), (4, .int (zI 12))] 339 [.int (zI v153), .int (zI v1), .ref a] := by
                        intro v153 fA92
                        have g154 : zc (s88 (gP G a 27)) = zc (s0 (gP G a 27)) := by rw [e_s88, zU_ne (zne (zr (k := 27) (t2 := 84) hG ha rfl) (zr (k := 30) (t2 := 87) hG ha rfl) (by decide)), e_s87, zU_ne (zne (zr (k := 27) (t2 := 84) hG ha rfl) (zr (k := 30) (t2 := 87) hG ha rfl) (by decide)), e_s11, zU_ne (zne (zr (k := 27) (t2 := 84) hG ha rfl) (zr (k := 30) (t2 := 87) hG ha rfl) (by decide)), (zFr_g hF_s7 (zr (k := 27) (t2 := 84) hG ha rfl) (by decide))]
                        have g155 : s88 (gP G a 27) 488 = s0 (gP G a 27) 488 := (by rw [e_s88, zU_at (Or.inl (zne (zr (k := 30) (t2 := 87) hG ha rfl) (zr (k := 27) (t2 := 84) hG ha rfl) (by decide))), e_s87, zU_at (Or.inl (zne (zr (k := 30) (t2 := 87) hG ha rfl) (zr (k := 27) (t2 := 84) hG ha rfl) (by decide))), e_s11, zU_at (Or.inl (zne (zr (k := 30) (t2 := 87) hG ha rfl) (zr (k := 27) (t2 := 84) hG ha rfl) (by decide))), (zFr_g hF_s7 (zr (k := 27) (t2 := 84) hG ha rfl) (by decide))])
                        refine j_callV hx hG (c_X12_counts hst a v1 v153) lk_RX12_388 ha (by decide) rfl rfl rfl rfl [.int (zI v1), .int (zI v153)] ⟨rfl, hG, hS_s88, ha, (by omega), (by omega)⟩ rfl rfl ⟨by decide, by decide⟩ ⟨by decide, by decide⟩ (k2 := 0) (n2 := 0) rfl rfl (Nat.le_of_ble_eq_true rfl) dX12_judges_339 (kVM (fun s93 hS_s93 hF_s93 q157 => ?_))
                        refine j_aload_n hx 0 dX12_judges_342 rfl ?_
                        refine g13_30 hx hG ha kf_RX12_65 dX12_judges_343 ?_
                        refine j_iconst hx dX12_judges_346 ?_
                        refine j_iload_n hx 1 dX12_judges_347 rfl ?_
                        refine j_iast hx hG (zr (k := 30) (t2 := 87) hG ha rfl) (by decide) rfl (zlen hG (zr (k := 30) (t2 := 87) hG ha rfl) (n := 5) rfl rfl) (by omega) (by omega) (j := 0) rfl dX12_judges_348 ?_
                        obtain ⟨s94, e_s94⟩ : ∃ z, z = zU s93 (gP G a 30) 0 v1 := ⟨_, rfl⟩
                        rw [← e_s94]
                        have hS_s94 : zSK G s94 := by rw [e_s94]; exact zSK_A hS_s93 (zr (k := 30) (t2 := 87) hG ha rfl) rfl rfl rfl (by omega)
                        refine j_aload_n hx 0 dX12_judges_349 rfl ?_
                        refine g13_30 hx hG ha kf_RX12_65 dX12_judges_350 ?_
                        refine j_iconst hx dX12_judges_353 ?_
                        refine j_aload_n hx 0 dX12_judges_354 rfl ?_
                        refine j_iload_n hx 1 dX12_judges_355 rfl ?_
                        refine j_iload hx 2 dX12_judges_356 rfl ?_
                        have g158 : zc (s94 (gP G a 27)) = zc (s93 (gP G a 27)) := by rw [e_s94, zU_ne (zne (zr (k := 27) (t2 := 84) hG ha rfl) (zr (k := 30) (t2 := 87) hG ha rfl) (by decide))]
                        have g159 : s94 (gP G a 27) 488 = s93 (gP G a 27) 488 := (by rw [e_s94, zU_at (Or.inl (zne (zr (k := 30) (t2 := 87) hG ha rfl) (zr (k := 27) (t2 := 84) hG ha rfl) (by decide)))])
                        refine j_callV hx hG (c_X12_wins hst a v1 12) lk_RX12_394 ha (by decide) rfl rfl rfl rfl [.int (zI v1), .int (zI 12)] ⟨rfl, hG, hS_s94, ha, (by omega), (by omega), (by omega), (by omega)⟩ rfl rfl ⟨by decide, by decide⟩ ⟨by decide, by decide⟩ (k2 := 0) (n2 := 0) rfl rfl (Nat.le_of_ble_eq_true rfl) dX12_judges_358 (kIM (fun v160 s95 hS_s95 hF_s95 q161 => ?_))
                        refine j_iast hx hG (zr (k := 30) (t2 := 87) hG ha rfl) (by decide) rfl (zlen hG (zr (k := 30) (t2 := 87) hG ha rfl) (n := 5) rfl rfl) (by omega) (by omega) (j := 4) rfl dX12_judges_361 ?_
                        obtain ⟨s96, e_s96⟩ : ∃ z, z = zU s95 (gP G a 30) 4 v160 := ⟨_, rfl⟩
                        rw [← e_s96]
                        have hS_s96 : zSK G s96 := by rw [e_s96]; exact zSK_A hS_s95 (zr (k := 30) (t2 := 87) hG ha rfl) rfl rfl rfl (by omega)
                        refine j_aload_n hx 0 dX12_judges_362 rfl ?_
                        refine g13_27 hx hG ha kf_RX12_56 dX12_judges_363 ?_
                        refine j_sipush hx dX12_judges_366 rfl ?_
                        refine j_iload_n hx 1 dX12_judges_369 rfl ?_
                        refine j_iadd hx (r := v1 + 512) dX12_judges_370 (by omega) ?_
                        refine j_dup2 hx dX12_judges_371 rfl rfl ?_
                        have f162 := zaQ (j := (v1 + 512).toNat) hS_s95 (zr (k := 27) (t2 := 84) hG ha rfl) (congrArg some (axS_8 (v1 + 512).toNat (by omega))) (zlen hG (zr (k := 27) (t2 := 84) hG ha rfl) (n := 515) rfl rfl) (show 0 ≤ v1 + 512 by omega) (by omega) rfl
                        refine j_iald hx hG (zr (k := 27) (t2 := 84) hG ha rfl) (by decide) rfl (zlen hG (zr (k := 27) (t2 := 84) hG ha rfl) (n := 515) rfl rfl) (by omega) (by omega) (j := (v1 + 512).toNat) rfl (v := (s95 (gP G a 27) (v1 + 512).toNat)) (by rw [e_s96, zU_at (Or.inl (zne (zr (k := 30) (t2 := 87) hG ha rfl) (zr (k := 27) (t2 := 84) hG ha rfl) (by decide)))]) dX12_judges_372 ?_
                        refine j_aload_n hx 0 dX12_judges_373 rfl ?_
                        refine g13_30 hx hG ha kf_RX12_65 dX12_judges_374 ?_
                        refine j_iconst hx dX12_judges_377 ?_
                        refine j_iald hx hG (zr (k := 30) (t2 := 87) hG ha rfl) (by decide) rfl (zlen hG (zr (k := 30) (t2 := 87) hG ha rfl) (n := 5) rfl rfl) (by omega) (by omega) (j := 4) rfl (v := v160) (by rw [e_s96, zU_eq]) dX12_judges_378 ?_
                        refine j_iadd hx (r := (s95 (gP G a 27) (v1 + 512).toNat) + v160) dX12_judges_379 (by omega) ?_
                        refine j_norm (fun v163 f164 f165 f166 => ?_)
                        refine j_iast hx hG (zr (k := 27) (t2 := 84) hG ha rfl) (by decide) rfl (zlen hG (zr (k := 27) (t2 := 84) hG ha rfl) (n := 515) rfl rfl) (by omega) (by omega) (j := (v1 + 512).toNat) rfl dX12_judges_380 ?_
                        obtain ⟨s97, e_s97⟩ : ∃ z, z = zU s96 (gP G a 27) (v1 + 512).toNat v163 := ⟨_, rfl⟩
                        rw [← e_s97]
                        have hS_s97 : zSK G s97 := by rw [e_s97]; exact zSK_a hS_s96 (zr (k := 27) (t2 := 84) hG ha rfl) rfl rfl (congrArg some (axS_8 (v1 + 512).toNat (by omega))) (by omega)
                        have g168 : zc (s96 (gP G a 27)) = zc (s95 (gP G a 27)) := by rw [e_s96, zU_ne (zne (zr (k := 27) (t2 := 84) hG ha rfl) (zr (k := 30) (t2 := 87) hG ha rfl) (by decide))]
                        have z167 : zc (s97 (gP G a 27)) = zc (s96 (gP G a 27)) := by rw [e_s97]; exact zc_o (by omega)
                        have g169 : s97 (gP G a 27) 488 = s95 (gP G a 27) 488 := (by rw [e_s97, zU_at (Or.inr (by omega)), e_s96, zU_at (Or.inl (zne (zr (k := 30) (t2 := 87) hG ha rfl) (zr (k := 27) (t2 := 84) hG ha rfl) (by decide)))])
                        exact j_vret hx hq rfl (by decide) (by decide) dX12_judges_381 ⟨rfl, rfl, hS_s97, (zFr_u (zFr_u (zFr_t (zFr_u (zFr_t (zFr_u (zFr_u (zFr_u (zFr_t zFr_rf hF_s7 (by decide)) e_s11 (zr (k := 30) (t2 := 87) hG ha rfl) (by decide)) e_s87 (zr (k := 30) (t2 := 87) hG ha rfl) (by decide)) e_s88 (zr (k := 30) (t2 := 87) hG ha rfl) (by decide)) hF_s93 (by decide)) e_s94 (zr (k := 30) (t2 := 87) hG ha rfl) (by decide)) hF_s95 (by decide)) e_s96 (zr (k := 30) (t2 := 87) hG ha rfl) (by decide)) e_s97 (zr (k := 27) (t2 := 84) hG ha rfl) (by decide)), ⟨by omega, by omega⟩⟩
                      refine j_if_lt hx 329 dX12_judges_322 rfl (by omega) (fun h170 => ?_) (fun h170 => ?_)
                      · skip
                        refine j_iload hx 0 dX12_judges_329 rfl ?_
                        refine j_if_eq hx 338 dX12_judges_331 rfl (by omega) (fun h171 => ?_) (fun h171 => ?_)
                        · skip
                          refine j_iconst hx dX12_judges_338 ?_
                          exact j_sub [1, 2, 3] [(0, .ref a), (1, .int (zI v1)), (4, .int (zI 12))] rfl (c339_91 1 (by omega))
                        · skip
                          refine j_iconst hx dX12_judges_334 ?_
                          refine j_goto hx 339 dX12_judges_335 rfl ?_
                          exact j_sub [1, 2, 3] [(0, .ref a), (1, .int (zI v1)), (4, .int (zI 12))] rfl (c339_91 2 (by omega))
                      · skip
                        refine j_iconst hx dX12_judges_325 ?_
                        refine j_goto hx 339 dX12_judges_326 rfl ?_
                        exact j_sub [1, 2, 3] [(0, .ref a), (1, .int (zI v1)), (4, .int (zI 12))] rfl (c339_91 0 (by omega))
                    have c311_98 : JJ X E 6 G s88 0 0 [(0, .ref a), (1, .int (zI v1)), (4, .int (zI 12))] 311 [] := by
                      refine j_iconst hx dX12_judges_311 ?_
                      exact j_sub [0, 1, 2] [(0, .ref a), (1, .int (zI v1)), (4, .int (zI 12))] rfl (c312_89 0 (by omega))
                    refine j_if_eq hx 311 dX12_judges_291 rfl (by omega) (fun h172 => ?_) (fun h172 => ?_)
                    · skip
                      exact j_sub [0, 1, 2] [(0, .ref a), (1, .int (zI v1)), (4, .int (zI 12))] rfl (c311_98  )
                    · skip
                      refine j_aload_n hx 0 dX12_judges_294 rfl ?_
                      refine g13_17 hx hG ha kf_RX12_44 dX12_judges_295 ?_
                      refine j_iconst hx dX12_judges_298 ?_
                      refine j_iload_n hx 1 dX12_judges_299 rfl ?_
                      refine j_imul hx (r := 4 * v1) dX12_judges_300 rfl ?_
                      refine j_iconst hx dX12_judges_301 ?_
                      refine j_iadd hx (r := 4 * v1 + 1) dX12_judges_302 (by omega) ?_
                      have f173 := zaI (j := (4 * v1 + 1).toNat) hS0 (zr (k := 17) (t2 := 80) hG ha rfl) rfl (zlen hG (zr (k := 17) (t2 := 80) hG ha rfl) (n := 12) rfl rfl) (show 0 ≤ 4 * v1 + 1 by omega) (by omega) rfl
                      refine j_iald hx hG (zr (k := 17) (t2 := 80) hG ha rfl) (by decide) rfl (zlen hG (zr (k := 17) (t2 := 80) hG ha rfl) (n := 12) rfl rfl) (by omega) (by omega) (j := (4 * v1 + 1).toNat) rfl (v := (s0 (gP G a 17) (4 * v1 + 1).toNat)) (by rw [e_s88, zU_at (Or.inl (zne (zr (k := 30) (t2 := 87) hG ha rfl) (zr (k := 17) (t2 := 80) hG ha rfl) (by decide))), e_s87, zU_at (Or.inl (zne (zr (k := 30) (t2 := 87) hG ha rfl) (zr (k := 17) (t2 := 80) hG ha rfl) (by decide))), e_s11, zU_at (Or.inl (zne (zr (k := 30) (t2 := 87) hG ha rfl) (zr (k := 17) (t2 := 80) hG ha rfl) (by decide))), (zFr_g hF_s7 (zr (k := 17) (t2 := 80) hG ha rfl) (by decide))]) dX12_judges_303 ?_
                      refine j_if_le hx 311 dX12_judges_304 rfl (by omega) (fun h174 => ?_) (fun h174 => ?_)
                      · skip
                        exact j_sub [0, 1, 2] [(0, .ref a), (1, .int (zI v1)), (4, .int (zI 12))] rfl (c311_98  )
                      · skip
                        refine j_iconst hx dX12_judges_307 ?_
                        refine j_goto hx 312 dX12_judges_308 rfl ?_
                        exact j_sub [0, 1, 2] [(0, .ref a), (1, .int (zI v1)), (4, .int (zI 12))] rfl (c312_89 1 (by omega))
                  refine j_icmp_le hx 250 dX12_judges_146 rfl (by omega) ⟨by decide, by decide⟩ (fun h175 => ?_) (fun h175 => ?_)
                  · skip
                    exact j_sub [1, 2, 0] [(0, .ref a), (1, .int (zI v1)), (4, .int (zI 12))] rfl (c250_86  )
                  · skip
                    refine j_aload_n hx 1 dX12_judges_149 rfl ?_
                    refine g13_27 hx hG ha kf_RX12_56 dX12_judges_150 ?_
                    refine j_sipush hx dX12_judges_153 rfl ?_
                    have f176 := zaQ (j := 492) hS0 (zr (k := 27) (t2 := 84) hG ha rfl) (congrArg some (axS_7 492 (by omega))) (zlen hG (zr (k := 27) (t2 := 84) hG ha rfl) (n := 515) rfl rfl) (show 0 ≤ 492 by omega) (by omega) rfl
                    refine j_iald hx hG (zr (k := 27) (t2 := 84) hG ha rfl) (by decide) rfl (zlen hG (zr (k := 27) (t2 := 84) hG ha rfl) (n := 515) rfl rfl) (by omega) (by omega) (j := 492) rfl (v := (s0 (gP G a 27) 492)) (by rw [e_s11, zU_at (Or.inl (zne (zr (k := 30) (t2 := 87) hG ha rfl) (zr (k := 27) (t2 := 84) hG ha rfl) (by decide))), (zFr_g hF_s7 (zr (k := 27) (t2 := 84) hG ha rfl) (by decide))]) dX12_judges_156 ?_
                    refine j_if_le hx 250 dX12_judges_157 rfl (by omega) (fun h177 => ?_) (fun h177 => ?_)
                    · skip
                      exact j_sub [1, 2, 0] [(0, .ref a), (1, .int (zI v1)), (4, .int (zI 12))] rfl (c250_86  )
                    · skip
                      refine j_iconst hx dX12_judges_160 ?_
                      refine j_istore hx [(5, .int (zI 0)), (4, .int (zI 12)), (0, .ref a), (1, .int (zI v1)), (2, .int (zI v2)), (3, .int (zI v3))] dX12_judges_161 (by decide) rfl ?_
                      have g179 : s11 (gP G a 27) 488 = s0 (gP G a 27) 488 := (by rw [e_s11, zU_at (Or.inl (zne (zr (k := 30) (t2 := 87) hG ha rfl) (zr (k := 27) (t2 := 84) hG ha rfl) (by decide))), (zFr_g hF_s7 (zr (k := 27) (t2 := 84) hG ha rfl) (by decide))])
                      have g180 : zc (s11 (gP G a 27)) = zc (s0 (gP G a 27)) := by rw [e_s11, zU_ne (zne (zr (k := 27) (t2 := 84) hG ha rfl) (zr (k := 30) (t2 := 87) hG ha rfl) (by decide)), (zFr_g hF_s7 (zr (k := 27) (t2 := 84) hG ha rfl) (by decide))]
                      have c163_99 : ∀ (m_c163_99 : Nat) (v178 : Int) (s100 : zS), 2147483648 - v178 < m_c163_99 → (0 ≤ v178 ∧ v178 ≤ 3) → (zSK G s100) → (zFr [84] G s11 s100) → (zc (s100 (gP G a 27)) = zc (s11 (gP G a 27))) → (s100 (gP G a 27) 488 = s11 (gP G a 27) 488) → JJ X E 6 G s100 0 0 [(0, .ref a), (1, .int (zI v1)), (4, .int (zI 12)), (5, .int (zI v178))] 163 [] := by
                        intro m_c163_99
                        induction m_c163_99 with
                        | zero => intro v178 s100 hm_c163_99 fA101 hS_s100 hF_s100 fA104 fA105; exfalso; omega
                        | succ m_c163_99 ih_c163_99 => 
                          intro v178 s100 hm_c163_99 fA101 hS_s100 hF_s100 fA104 fA105
                          refine j_iload hx 3 dX12_judges_163 rfl ?_
                          refine j_aload_n hx 0 dX12_judges_165 rfl ?_
                          refine g13_24 hx hG ha kf_RX12_189 (v := (s0 a 24)) (by rw [(zFr_g hF_s100 ha (by decide)), e_s11, zU_at (Or.inl (zne (zr (k := 30) (t2 := 87) hG ha rfl) ha (by decide))), (zFr_g hF_s7 ha (by decide))]) dX12_judges_166 ?_
                          refine j_icmp_ge hx 201 dX12_judges_169 rfl (by omega) (by omega) (fun h181 => ?_) (fun h181 => ?_)
                          · skip
                            refine j_aload_n hx 0 dX12_judges_201 rfl ?_
                            refine g13_27 hx hG ha kf_RX12_56 dX12_judges_202 ?_
                            refine j_sipush hx dX12_judges_205 rfl ?_
                            have f182 := zaQ (j := 492) hS_s100 (zr (k := 27) (t2 := 84) hG ha rfl) (congrArg some (axS_7 492 (by omega))) (zlen hG (zr (k := 27) (t2 := 84) hG ha rfl) (n := 515) rfl rfl) (show 0 ≤ 492 by omega) (by omega) rfl
                            refine j_iald hx hG (zr (k := 27) (t2 := 84) hG ha rfl) (by decide) rfl (zlen hG (zr (k := 27) (t2 := 84) hG ha rfl) (n := 515) rfl rfl) (by omega) (by omega) (j := 492) rfl rfl dX12_judges_208 ?_
                            refine j_iconst hx dX12_judges_209 ?_
                            refine j_icmp_ne hx 249 dX12_judges_210 rfl (by omega) ⟨by decide, by decide⟩ (fun h183 => ?_) (fun h183 => ?_)
                            · skip
                              exact j_vret hx hq rfl (by decide) (by decide) dX12_judges_249 ⟨rfl, rfl, hS_s100, (zFr_t (zFr_u (zFr_t zFr_rf hF_s7 (by decide)) e_s11 (zr (k := 30) (t2 := 87) hG ha rfl) (by decide)) hF_s100 (by decide)), ⟨by omega, by omega⟩⟩
                            · skip
                              refine j_iload hx 2 dX12_judges_213 rfl ?_
                              refine j_iconst hx dX12_judges_215 ?_
                              refine j_icmp_eq hx 249 dX12_judges_216 rfl ⟨by decide, by decide⟩ ⟨by decide, by decide⟩ (fun h184 => absurd h184 (by omega)) (fun h184 => ?_)
                              refine j_aload_n hx 0 dX12_judges_219 rfl ?_
                              refine j_iload hx 2 dX12_judges_220 rfl ?_
                              refine j_bipush hx dX12_judges_222 rfl ?_
                              refine j_idiv hx dX12_judges_224 ⟨by decide, by decide⟩ ⟨by decide, by decide⟩ (by decide) (fun v185 f186 f187 f188 => ?_)
                              refine j_sipush hx dX12_judges_225 rfl ?_
                              refine j_sipush hx dX12_judges_228 rfl ?_
                              refine j_callV hx hG (c_X12_comes hst a v185 360 486) lk_RX12_365 ha (by decide) rfl rfl rfl rfl [.int (zI v185), .int (zI 360), .int (zI 486)] ⟨rfl, hG, hS_s100, ha, (by omega), (by omega), (by omega), (by omega), (by omega)⟩ rfl rfl ⟨by decide, by decide⟩ ⟨by decide, by decide⟩ (k2 := 0) (n2 := 0) rfl rfl (Nat.le_of_ble_eq_true rfl) dX12_judges_231 (kVM (fun s106 hS_s106 hF_s106 q192 => ?_))
                              refine j_aload_n hx 0 dX12_judges_234 rfl ?_
                              refine j_iload hx 2 dX12_judges_235 rfl ?_
                              refine j_bipush hx dX12_judges_237 rfl ?_
                              refine j_irem hx dX12_judges_239 ⟨by decide, by decide⟩ ⟨by decide, by decide⟩ (by decide) (fun v193 f194 f195 f196 f197 => ?_)
                              refine j_sipush hx dX12_judges_240 rfl ?_
                              refine j_sipush hx dX12_judges_243 rfl ?_
                              refine j_callV hx hG (c_X12_comes hst a v193 360 486) lk_RX12_365 ha (by decide) rfl rfl rfl rfl [.int (zI v193), .int (zI 360), .int (zI 486)] ⟨rfl, hG, hS_s106, ha, (by omega), (by omega), (by omega), (by omega), (by omega)⟩ rfl rfl ⟨by decide, by decide⟩ ⟨by decide, by decide⟩ (k2 := 0) (n2 := 0) rfl rfl (Nat.le_of_ble_eq_true rfl) dX12_judges_246 (kVM (fun s107 hS_s107 hF_s107 q200 => ?_))
                              exact j_vret hx hq rfl (by decide) (by decide) dX12_judges_249 ⟨rfl, rfl, hS_s107, (zFr_t (zFr_t (zFr_t (zFr_u (zFr_t zFr_rf hF_s7 (by decide)) e_s11 (zr (k := 30) (t2 := 87) hG ha rfl) (by decide)) hF_s100 (by decide)) hF_s106 (by decide)) hF_s107 (by decide)), ⟨by omega, by omega⟩⟩
                          · skip
                            refine j_aload_n hx 0 dX12_judges_172 rfl ?_
                            refine g13_45 hx hG ha kf_RX12_99 dX12_judges_173 ?_
                            refine j_iload hx 3 dX12_judges_176 rfl ?_
                            have f201 := zaI (j := (v178).toNat) hS0 (zr (k := 45) (t2 := 98) hG ha rfl) rfl (zlen hG (zr (k := 45) (t2 := 98) hG ha rfl) (n := 3) rfl rfl) (show 0 ≤ v178 by omega) (by omega) rfl
                            refine j_iald hx hG (zr (k := 45) (t2 := 98) hG ha rfl) (by decide) rfl (zlen hG (zr (k := 45) (t2 := 98) hG ha rfl) (n := 3) rfl rfl) (by omega) (by omega) (j := (v178).toNat) rfl (v := (s0 (gP G a 45) (v178).toNat)) (by rw [(zFr_g hF_s100 (zr (k := 45) (t2 := 98) hG ha rfl) (by decide)), e_s11, zU_at (Or.inl (zne (zr (k := 30) (t2 := 87) hG ha rfl) (zr (k := 45) (t2 := 98) hG ha rfl) (by decide))), (zFr_g hF_s7 (zr (k := 45) (t2 := 98) hG ha rfl) (by decide))]) dX12_judges_178 ?_
                            refine j_aload_n hx 0 dX12_judges_179 rfl ?_
                            refine g13_45 hx hG ha kf_RX12_99 dX12_judges_180 ?_
                            refine j_iload_n hx 1 dX12_judges_183 rfl ?_
                            have f202 := zaI (j := (v1).toNat) hS0 (zr (k := 45) (t2 := 98) hG ha rfl) rfl (zlen hG (zr (k := 45) (t2 := 98) hG ha rfl) (n := 3) rfl rfl) (show 0 ≤ v1 by omega) (by omega) rfl
                            refine j_iald hx hG (zr (k := 45) (t2 := 98) hG ha rfl) (by decide) rfl (zlen hG (zr (k := 45) (t2 := 98) hG ha rfl) (n := 3) rfl rfl) (by omega) (by omega) (j := (v1).toNat) rfl (v := (s0 (gP G a 45) (v1).toNat)) (by rw [(zFr_g hF_s100 (zr (k := 45) (t2 := 98) hG ha rfl) (by decide)), e_s11, zU_at (Or.inl (zne (zr (k := 30) (t2 := 87) hG ha rfl) (zr (k := 45) (t2 := 98) hG ha rfl) (by decide))), (zFr_g hF_s7 (zr (k := 45) (t2 := 98) hG ha rfl) (by decide))]) dX12_judges_184 ?_
                            have c195_108 : ∀ (s109 : zS), (zSK G s109) → (zFr [84] G s100 s109) → (zc (s109 (gP G a 27)) = zc (s100 (gP G a 27))) → JJ X E 6 G s109 0 0 [(0, .ref a), (1, .int (zI v1)), (4, .int (zI 12)), (5, .int (zI v178))] 195 [] := by
                              intro s109 hS_s109 hF_s109 fA112
                              refine j_iinc hx 3 [(5, .int (zI (v178 + 1))), (0, .ref a), (1, .int (zI v1)), (4, .int (zI 12))] dX12_judges_195 rfl (by omega) (by decide) rfl ?_
                              refine j_goto hx 163 dX12_judges_198 rfl ?_
                              exact j_sub [1, 2, 3, 0] [(0, .ref a), (1, .int (zI v1)), (4, .int (zI 12)), (5, .int (zI (v178 + 1)))] rfl (ih_c163_99 (v178 + 1) s109 (by omega) (by omega) hS_s109 (zFr_t (zFr_t zFr_rf hF_s100 (by decide)) hF_s109 (by decide)) (by omega) (by omega))
                            refine j_icmp_ne hx 195 dX12_judges_185 rfl (by omega) (by omega) (fun h203 => ?_) (fun h203 => ?_)
                            · skip
                              exact j_sub [0, 1, 2, 3] [(0, .ref a), (1, .int (zI v1)), (4, .int (zI 12)), (5, .int (zI v178))] rfl (c195_108 s100 hS_s100 zFr_rf (by omega))
                            · skip
                              refine j_aload_n hx 0 dX12_judges_188 rfl ?_
                              refine j_iload hx 3 dX12_judges_189 rfl ?_
                              refine j_iconst hx dX12_judges_191 ?_
                              refine j_callV hx hG (c_X12_counts hst a v178 4) lk_RX12_388 ha (by decide) rfl rfl rfl rfl [.int (zI v178), .int (zI 4)] ⟨rfl, hG, hS_s100, ha, (by omega), (by omega)⟩ rfl rfl ⟨by decide, by decide⟩ ⟨by decide, by decide⟩ (k2 := 0) (n2 := 0) rfl rfl (Nat.le_of_ble_eq_true rfl) dX12_judges_192 (kVM (fun s113 hS_s113 hF_s113 q205 => ?_))
                              exact j_sub [0, 1, 2, 3] [(0, .ref a), (1, .int (zI v1)), (4, .int (zI 12)), (5, .int (zI v178))] rfl (c195_108 s113 hS_s113 (zFr_t zFr_rf hF_s113 (by decide)) (by omega))
                      exact j_sub [2, 3, 1, 0] [(0, .ref a), (1, .int (zI v1)), (4, .int (zI 12)), (5, .int (zI 0))] rfl (c163_99 (2147483648 * 4) 0 s11 (by omega) (by omega) hS_s11 zFr_rf (by omega) (by omega))
              · skip
                have g206 : zc (s11 (gP G a 27)) = zc (s0 (gP G a 27)) := by rw [e_s11, zU_ne (zne (zr (k := 27) (t2 := 84) hG ha rfl) (zr (k := 30) (t2 := 87) hG ha rfl) (by decide)), (zFr_g hF_s7 (zr (k := 27) (t2 := 84) hG ha rfl) (by decide))]
                have g207 : s11 (gP G a 27) 488 = s0 (gP G a 27) 488 := (by rw [e_s11, zU_at (Or.inl (zne (zr (k := 30) (t2 := 87) hG ha rfl) (zr (k := 27) (t2 := 84) hG ha rfl) (by decide))), (zFr_g hF_s7 (zr (k := 27) (t2 := 84) hG ha rfl) (by decide))])
                exact j_vret hx hq rfl (by decide) (by decide) dX12_judges_137 ⟨rfl, rfl, hS_s11, (zFr_u (zFr_t zFr_rf hF_s7 (by decide)) e_s11 (zr (k := 30) (t2 := 87) hG ha rfl) (by decide)), ⟨by omega, by omega⟩⟩
            · skip
              refine j_aload_n hx 0 dX12_judges_101 rfl ?_
              refine g13_30 hx hG ha kf_RX12_65 dX12_judges_102 ?_
              refine j_iload hx 4 dX12_judges_105 rfl ?_
              refine j_iload hx 4 dX12_judges_107 rfl ?_
              refine j_iconst hx dX12_judges_109 ?_
              have c118_114 : ∀ (v208 : Int), ((-1) ≤ v208 ∧ v208 ≤ 0) → JJ X E 6 G s7 0 0 [(0, .ref a), (1, .int (zI v1)), (2, .int (zI v2)), (3, .int (zI v3)), (4, .int (zI v7))] 118 [.int (zI v208), .int (zI v7), .ref (gP G a 30)] := by
                intro v208 fA115
                refine j_iast hx hG (zr (k := 30) (t2 := 87) hG ha rfl) (by decide) rfl (zlen hG (zr (k := 30) (t2 := 87) hG ha rfl) (n := 5) rfl rfl) (by omega) (by omega) (j := (v7).toNat) rfl dX12_judges_118 ?_
                obtain ⟨s116, e_s116⟩ : ∃ z, z = zU s7 (gP G a 30) (v7).toNat v208 := ⟨_, rfl⟩
                rw [← e_s116]
                have hS_s116 : zSK G s116 := by rw [e_s116]; exact zSK_A hS_s7 (zr (k := 30) (t2 := 87) hG ha rfl) rfl rfl rfl (by omega)
                refine j_iinc hx 4 [(4, .int (zI (v7 + 1))), (0, .ref a), (1, .int (zI v1)), (2, .int (zI v2)), (3, .int (zI v3))] dX12_judges_119 rfl (by omega) (by decide) rfl ?_
                refine j_goto hx 95 dX12_judges_122 rfl ?_
                exact j_sub [1, 2, 3, 4, 0] [(0, .ref a), (1, .int (zI v1)), (2, .int (zI v2)), (3, .int (zI v3)), (4, .int (zI (v7 + 1)))] rfl (ih_c95_6 (v7 + 1) s116 (by omega) (by omega) hS_s116 (zFr_u (zFr_t zFr_rf hF_s7 (by decide)) e_s116 (zr (k := 30) (t2 := 87) hG ha rfl) (by decide)))
              refine j_icmp_ge hx 117 dX12_judges_110 rfl (by omega) ⟨by decide, by decide⟩ (fun h209 => ?_) (fun h209 => ?_)
              · skip
                refine j_iconst hx dX12_judges_117 ?_
                exact j_sub [0, 1, 2, 3, 4] [(0, .ref a), (1, .int (zI v1)), (2, .int (zI v2)), (3, .int (zI v3)), (4, .int (zI v7))] rfl (c118_114 0 (by omega))
              · skip
                refine j_iconst hx dX12_judges_113 ?_
                refine j_goto hx 118 dX12_judges_114 rfl ?_
                exact j_sub [0, 1, 2, 3, 4] [(0, .ref a), (1, .int (zI v1)), (2, .int (zI v2)), (3, .int (zI v3)), (4, .int (zI v7))] rfl (c118_114 (-1) (by omega))
        exact j_sub [1, 2, 3, 4, 0] [(0, .ref a), (1, .int (zI v1)), (2, .int (zI v2)), (3, .int (zI v3)), (4, .int (zI 0))] rfl (c95_6 (2147483648 * 4) 0 s0 (by omega) (by omega) hS0 zFr_rf)
      · skip
        refine j_aload_n hx 0 dX12_judges_18 rfl ?_
        refine g13_45 hx hG ha kf_RX12_99 dX12_judges_19 ?_
        refine j_iload hx 4 dX12_judges_22 rfl ?_
        have f210 := zaI (j := (v4).toNat) hS0 (zr (k := 45) (t2 := 98) hG ha rfl) rfl (zlen hG (zr (k := 45) (t2 := 98) hG ha rfl) (n := 3) rfl rfl) (show 0 ≤ v4 by omega) (by omega) rfl
        refine j_iald hx hG (zr (k := 45) (t2 := 98) hG ha rfl) (by decide) rfl (zlen hG (zr (k := 45) (t2 := 98) hG ha rfl) (n := 3) rfl rfl) (by omega) (by omega) (j := (v4).toNat) rfl rfl dX12_judges_24 ?_
        refine j_bipush hx dX12_judges_25 rfl ?_
        have c86_117 : ∀ (v211 : Int) (v212 : Int) (v213 : Int), ((-1) ≤ v211 ∧ v211 ≤ 2) → ((-2147483648) ≤ v212 ∧ v212 ≤ 2147483647) → ((-2147483648) ≤ v213 ∧ v213 ≤ 2147483647) → JJ X E 6 G s0 0 0 [(0, .ref a), (1, .int (zI v211)), (2, .int (zI v212)), (3, .int (zI v213)), (4, .int (zI v4))] 86 [] := by
          intro v211 v212 v213 fA118 fA119 fA120
          refine j_iinc hx 4 [(4, .int (zI (v4 + 1))), (0, .ref a), (1, .int (zI v211)), (2, .int (zI v212)), (3, .int (zI v213))] dX12_judges_86 rfl (by omega) (by decide) rfl ?_
          refine j_goto hx 9 dX12_judges_89 rfl ?_
          exact j_sub [1, 2, 3, 4, 0] [(0, .ref a), (1, .int (zI v211)), (2, .int (zI v212)), (3, .int (zI v213)), (4, .int (zI (v4 + 1)))] rfl (ih_c9_1 v211 v212 v213 (v4 + 1) (by omega) (by omega) (by omega) (by omega) (by omega))
        refine j_icmp_ne hx 33 dX12_judges_27 rfl (by omega) ⟨by decide, by decide⟩ (fun h214 => ?_) (fun h214 => ?_)
        · skip
          refine j_iincN hx 2 (fun v215 => [(2, .int (zI v215)), (0, .ref a), (1, .int (zI v1)), (3, .int (zI v3)), (4, .int (zI v4))]) dX12_judges_33 rfl (by decide) (fun _ => rfl) (fun v215 f216 f217 f218 => ?_)
          refine j_iload_n hx 2 dX12_judges_36 rfl ?_
          refine j_iconst hx dX12_judges_37 ?_
          have c62_121 : ∀ (v219 : Int) (v220 : Int), (0 ≤ v219 ∧ v219 ≤ 2) → ((-2147483648) ≤ v220 ∧ v220 ≤ 2147483647) → JJ X E 6 G s0 0 0 [(0, .ref a), (1, .int (zI v219)), (2, .int (zI v215)), (3, .int (zI v220)), (4, .int (zI v4))] 62 [] := by
            intro v219 v220 fA122 fA123
            refine j_iload_n hx 3 dX12_judges_62 rfl ?_
            refine j_aload_n hx 0 dX12_judges_63 rfl ?_
            refine g13_45 hx hG ha kf_RX12_99 dX12_judges_64 ?_
            refine j_iload hx 4 dX12_judges_67 rfl ?_
            refine j_iald hx hG (zr (k := 45) (t2 := 98) hG ha rfl) (by decide) rfl (zlen hG (zr (k := 45) (t2 := 98) hG ha rfl) (n := 3) rfl rfl) (by omega) (by omega) (j := (v4).toNat) rfl rfl dX12_judges_69 ?_
            refine j_aload_n hx 0 dX12_judges_70 rfl ?_
            refine g13_45 hx hG ha kf_RX12_99 dX12_judges_71 ?_
            refine j_iload_n hx 1 dX12_judges_74 rfl ?_
            have f221 := zaI (j := (v219).toNat) hS0 (zr (k := 45) (t2 := 98) hG ha rfl) rfl (zlen hG (zr (k := 45) (t2 := 98) hG ha rfl) (n := 3) rfl rfl) (show 0 ≤ v219 by omega) (by omega) rfl
            refine j_iald hx hG (zr (k := 45) (t2 := 98) hG ha rfl) (by decide) rfl (zlen hG (zr (k := 45) (t2 := 98) hG ha rfl) (n := 3) rfl rfl) (by omega) (by omega) (j := (v219).toNat) rfl rfl dX12_judges_75 ?_
            have c84_124 : ∀ (v222 : Int), (0 ≤ v222 ∧ v222 ≤ 1) → JJ X E 6 G s0 0 0 [(0, .ref a), (1, .int (zI v219)), (2, .int (zI v215)), (4, .int (zI v4))] 84 [.int (zI v222), .int (zI v220)] := by
              intro v222 fA125
              refine j_iadd hx (r := v220 + v222) dX12_judges_84 rfl ?_
              refine j_norm (fun v223 f224 f225 f226 => ?_)
              refine j_istore_n hx [(3, .int (zI v223)), (0, .ref a), (1, .int (zI v219)), (2, .int (zI v215)), (4, .int (zI v4))] dX12_judges_85 (by decide) rfl ?_
              exact j_sub [1, 2, 3, 0, 4] [(0, .ref a), (1, .int (zI v219)), (2, .int (zI v215)), (3, .int (zI v223)), (4, .int (zI v4))] rfl (c86_117 v219 v215 v223 (by omega) (by omega) (by omega))
            refine j_icmp_ne hx 83 dX12_judges_76 rfl (by omega) (by omega) (fun h227 => ?_) (fun h227 => ?_)
            · skip
              refine j_iconst hx dX12_judges_83 ?_
              exact j_sub [0, 1, 2, 4] [(0, .ref a), (1, .int (zI v219)), (2, .int (zI v215)), (4, .int (zI v4))] rfl (c84_124 0 (by omega))
            · skip
              refine j_iconst hx dX12_judges_79 ?_
              refine j_goto hx 84 dX12_judges_80 rfl ?_
              exact j_sub [0, 1, 2, 4] [(0, .ref a), (1, .int (zI v219)), (2, .int (zI v215)), (4, .int (zI v4))] rfl (c84_124 1 (by omega))
          have c57_126 : JJ X E 6 G s0 0 0 [(0, .ref a), (2, .int (zI v215)), (4, .int (zI v4))] 57 [] := by
            refine j_iload hx 2 dX12_judges_57 rfl ?_
            refine j_istore_n hx [(1, .int (zI v4)), (0, .ref a), (2, .int (zI v215)), (4, .int (zI v4))] dX12_judges_59 (by decide) rfl ?_
            refine j_iconst hx dX12_judges_60 ?_
            refine j_istore_n hx [(3, .int (zI 0)), (1, .int (zI v4)), (0, .ref a), (2, .int (zI v215)), (4, .int (zI v4))] dX12_judges_61 (by decide) rfl ?_
            exact j_sub [2, 1, 3, 0, 4] [(0, .ref a), (1, .int (zI v4)), (2, .int (zI v215)), (3, .int (zI 0)), (4, .int (zI v4))] rfl (c62_121 v4 0 (by omega) (by omega))
          refine j_icmp_eq hx 57 dX12_judges_38 rfl (by omega) ⟨by decide, by decide⟩ (fun h228 => ?_) (fun h228 => ?_)
          · skip
            exact j_sub [1, 0, 4] [(0, .ref a), (2, .int (zI v215)), (4, .int (zI v4))] rfl (c57_126  )
          · skip
            refine j_aload_n hx 1 dX12_judges_41 rfl ?_
            refine g13_45 hx hG ha kf_RX12_99 dX12_judges_42 ?_
            refine j_iload hx 4 dX12_judges_45 rfl ?_
            refine j_iald hx hG (zr (k := 45) (t2 := 98) hG ha rfl) (by decide) rfl (zlen hG (zr (k := 45) (t2 := 98) hG ha rfl) (n := 3) rfl rfl) (by omega) (by omega) (j := (v4).toNat) rfl rfl dX12_judges_47 ?_
            refine j_aload_n hx 1 dX12_judges_48 rfl ?_
            refine g13_45 hx hG ha kf_RX12_99 dX12_judges_49 ?_
            refine j_iload_n hx 2 dX12_judges_52 rfl ?_
            have f229 := zaI (j := (v1).toNat) hS0 (zr (k := 45) (t2 := 98) hG ha rfl) rfl (zlen hG (zr (k := 45) (t2 := 98) hG ha rfl) (n := 3) rfl rfl) (show 0 ≤ v1 by omega) (by omega) rfl
            refine j_iald hx hG (zr (k := 45) (t2 := 98) hG ha rfl) (by decide) rfl (zlen hG (zr (k := 45) (t2 := 98) hG ha rfl) (n := 3) rfl rfl) (by omega) (by omega) (j := (v1).toNat) rfl rfl dX12_judges_53 ?_
            refine j_icmp_ge hx 62 dX12_judges_54 rfl (by omega) (by omega) (fun h230 => ?_) (fun h230 => ?_)
            · skip
              exact j_sub [1, 2, 0, 3, 4] [(0, .ref a), (1, .int (zI v1)), (2, .int (zI v215)), (3, .int (zI v3)), (4, .int (zI v4))] rfl (c62_121 v1 v3 (by omega) (by omega))
            · skip
              exact j_sub [1, 0, 4] [(0, .ref a), (2, .int (zI v215)), (4, .int (zI v4))] rfl (c57_126  )
        · skip
          refine j_goto hx 86 dX12_judges_30 rfl ?_
          exact j_sub [0, 1, 2, 3, 4] [(0, .ref a), (1, .int (zI v1)), (2, .int (zI v2)), (3, .int (zI v3)), (4, .int (zI v4))] rfl (c86_117 v1 v2 v3 (by omega) (by omega) (by omega))
  exact j_sub [4, 3, 2, 1, 0] [(0, .ref a), (1, .int (zI (-1))), (2, .int (zI 0)), (3, .int (zI 0)), (4, .int (zI 0))] rfl (c9_1 (2147483648 * 4) (-1) 0 0 0 (by omega) (by omega) (by omega) (by omega) (by omega))

theorem lk_RX12_397 : LkV RX12 397 RX12 yX12_turnsOver cX12_turnsOver 2 none 1 := ⟨km_RX12_397, ki_yX12_turnsOver, ks_RX12_yX12_turnsOver, kn_RX12, kc_yX12_turnsOver, rfl, by decide +kernel, by decide +kernel, by decide +kernel⟩
theorem lk_RX12_400 : LkV RX12 400 RX12 yX12_guesses cX12_guesses 3 none 1 := ⟨km_RX12_400, ki_yX12_guesses, ks_RX12_yX12_guesses, kn_RX12, kc_yX12_guesses, rfl, by decide +kernel, by decide +kernel, by decide +kernel⟩
theorem lk_RX12_403 : LkV RX12 403 RX12 yX12_lays cX12_lays 2 none 1 := ⟨km_RX12_403, ki_yX12_lays, ks_RX12_yX12_lays, kn_RX12, kc_yX12_lays, rfl, by decide +kernel, by decide +kernel, by decide +kernel⟩
theorem lk_RX12_406 : LkV RX12 406 RX12 yX12_plans cX12_plans 5 none 1 := ⟨km_RX12_406, ki_yX12_plans, ks_RX12_yX12_plans, kn_RX12, kc_yX12_plans, rfl, by decide +kernel, by decide +kernel, by decide +kernel⟩
theorem lk_RX12_409 : LkV RX12 409 RX12 yX12_judges cX12_judges 6 none 0 := ⟨km_RX12_409, ki_yX12_judges, ks_RX12_yX12_judges, kn_RX12, kc_yX12_judges, rfl, by decide +kernel, by decide +kernel, by decide +kernel⟩
set_option maxHeartbeats 4000000 in
set_option maxRecDepth 20000 in
theorem c_X12_turn {E : zE} {l : Launch} (hst : l.stackTraces = false) (a : Nat) : Con E l yX12_turn cX12_turn 2 (some .boolean) { frames := 5, cells := 0, slots := 0, locals := 120 } (fun G s vs => vs = [.ref a] ∧ zGK G ∧ zSK G s ∧ (gT G a = 13) ∧ (zc (s (gP G a 27)) ≤ 60) ∧ (zRva (s (gP G a 34)) (s (gP G a 35)) (s (gP G a 37))) ∧ (s (gP G a 27) 488 ≤ 599999)) (fun G s _ => pI (fun r G2 s2 => G2 = G ∧ zSK G s2 ∧ zFr [13, 84, 87, 95, 98] G s s2 ∧ (0 ≤ r ∧ r ≤ 1) ∧ zc (s2 (gP G a 27)) = zc (s (gP G a 27)) ∧ ((r = 0 → s2 (gP G a 27) 488 = s (gP G a 27) 488) ∧ (r = 1 → s2 (gP G a 27) 488 = s (gP G a 27) 488 + 1)) ∧ s2 a 0 = s a 0 ∧ s2 a 3 = s a 3 ∧ s2 a 4 = s a 4 ∧ s2 a 5 = s a 5 ∧ s2 a 7 = s a 7 ∧ s2 a 21 = s a 21 ∧ s2 a 22 = s a 22 ∧ s2 a 23 = s a 23 ∧ s2 a 24 = s a 24 ∧ s2 a 38 = s a 38 ∧ s2 a 51 = s a 51 ∧ s2 a 52 = s a 52)) := by
  refine Con.mk hst (by decide) (fun G s vs h => by rw [h.1]; exact Nat.le_of_ble_eq_true rfl) ?_
  rintro X G s0 vs ⟨rfl, hG, hS0, ha, e0, e1, e2⟩ rfl hx hq
  show JJ X E 2 G s0 0 0 [(0, .ref a)] 0 []
  refine j_aload_n hx 0 dX12_turn_0 rfl ?_
  refine j_callV hx hG (c_X12_whose hst a) lk_RX12_336 ha (by decide) rfl rfl rfl rfl [] ⟨rfl, hG, hS0, ha⟩ rfl rfl ⟨by decide, by decide⟩ ⟨by decide, by decide⟩ (k2 := 0) (n2 := 0) rfl rfl (Nat.le_of_ble_eq_true rfl) dX12_turn_1 (kIP (fun v1 q2 => ?_))
  refine j_istore_n hx [(1, .int (zI v1)), (0, .ref a)] dX12_turn_4 (by decide) rfl ?_
  refine j_iload_n hx 0 dX12_turn_5 rfl ?_
  refine j_iconst hx dX12_turn_6 ?_
  refine j_icmp_ne hx 12 dX12_turn_7 rfl (by omega) ⟨by decide, by decide⟩ (fun h3 => ?_) (fun h3 => ?_)
  · skip
    refine j_aload_n hx 1 dX12_turn_12 rfl ?_
    refine j_iload_n hx 0 dX12_turn_13 rfl ?_
    refine j_callV hx hG (c_X12_turnsOver hst a v1) lk_RX12_397 ha (by decide) rfl rfl rfl rfl [.int (zI v1)] ⟨rfl, hG, hS0, ha, (by omega), (by omega)⟩ rfl rfl ⟨by decide, by decide⟩ ⟨by decide, by decide⟩ (k2 := 0) (n2 := 0) rfl rfl (Nat.le_of_ble_eq_true rfl) dX12_turn_14 (kVM (fun s1 hS_s1 hF_s1 q5 => ?_))
    refine j_aload_n hx 1 dX12_turn_17 rfl ?_
    refine j_iload_n hx 0 dX12_turn_18 rfl ?_
    refine j_callV hx hG (c_X12_guesses hst a v1) lk_RX12_400 ha (by decide) rfl rfl rfl rfl [.int (zI v1)] ⟨rfl, hG, hS_s1, ha, (by omega), ((by rw [(zFr_g hF_s1 (zr (k := 34) (t2 := 91) hG ha rfl) (by decide)), (zFr_g hF_s1 (zr (k := 35) (t2 := 92) hG ha rfl) (by decide)), (zFr_g hF_s1 (zr (k := 37) (t2 := 94) hG ha rfl) (by decide))]; exact e1))⟩ rfl rfl ⟨by decide, by decide⟩ ⟨by decide, by decide⟩ (k2 := 0) (n2 := 0) rfl rfl (Nat.le_of_ble_eq_true rfl) dX12_turn_19 (kVM (fun s2 hS_s2 hF_s2 q7 => ?_))
    refine j_aload_n hx 1 dX12_turn_22 rfl ?_
    refine j_iload_n hx 0 dX12_turn_23 rfl ?_
    have g8 : s2 (gP G a 27) (v1 + 480).toNat = s1 (gP G a 27) (v1 + 480).toNat := (by rw [(zFr_g hF_s2 (zr (k := 27) (t2 := 84) hG ha rfl) (by decide))])
    have g9 : zc (s2 (gP G a 27)) = zc (s1 (gP G a 27)) := by rw [(zFr_g hF_s2 (zr (k := 27) (t2 := 84) hG ha rfl) (by decide))]
    have g10 : s2 (gP G a 27) 488 = s1 (gP G a 27) 488 := (by rw [(zFr_g hF_s2 (zr (k := 27) (t2 := 84) hG ha rfl) (by decide))])
    have g11 : s2 a 0 = s0 a 0 := (by rw [(zFr_g hF_s2 ha (by decide)), (zFr_g hF_s1 ha (by decide))])
    have f12 := zf hS0 ha (k := 0) rfl
    have g13 : s2 a 3 = s0 a 3 := (by rw [(zFr_g hF_s2 ha (by decide)), (zFr_g hF_s1 ha (by decide))])
    have f14 := zf hS0 ha (k := 3) rfl
    have g15 : s2 a 4 = s0 a 4 := (by rw [(zFr_g hF_s2 ha (by decide)), (zFr_g hF_s1 ha (by decide))])
    have f16 := zf hS0 ha (k := 4) rfl
    have g17 : s2 a 5 = s0 a 5 := (by rw [(zFr_g hF_s2 ha (by decide)), (zFr_g hF_s1 ha (by decide))])
    have f18 := zf hS0 ha (k := 5) rfl
    have g19 : s2 a 7 = s0 a 7 := (by rw [(zFr_g hF_s2 ha (by decide)), (zFr_g hF_s1 ha (by decide))])
    have f20 := zf hS0 ha (k := 7) rfl
    have g21 : s2 a 21 = s0 a 21 := (by rw [(zFr_g hF_s2 ha (by decide)), (zFr_g hF_s1 ha (by decide))])
    have f22 := zf hS0 ha (k := 21) rfl
    have g23 : s2 a 22 = s0 a 22 := (by rw [(zFr_g hF_s2 ha (by decide)), (zFr_g hF_s1 ha (by decide))])
    have f24 := zf hS0 ha (k := 22) rfl
    have g25 : s2 a 23 = s0 a 23 := (by rw [(zFr_g hF_s2 ha (by decide)), (zFr_g hF_s1 ha (by decide))])
    have f26 := zf hS0 ha (k := 23) rfl
    have g27 : s2 a 24 = s0 a 24 := (by rw [(zFr_g hF_s2 ha (by decide)), (zFr_g hF_s1 ha (by decide))])
    have f28 := zf hS0 ha (k := 24) rfl
    have g29 : s2 a 38 = s0 a 38 := (by rw [(zFr_g hF_s2 ha (by decide)), (zFr_g hF_s1 ha (by decide))])
    have f30 := zf hS0 ha (k := 38) rfl
    have g31 : s2 a 51 = s0 a 51 := (by rw [(zFr_g hF_s2 ha (by decide)), (zFr_g hF_s1 ha (by decide))])
    have f32 := zf hS0 ha (k := 51) rfl
    have g33 : s2 a 52 = s0 a 52 := (by rw [(zFr_g hF_s2 ha (by decide)), (zFr_g hF_s1 ha (by decide))])
    have f34 := zf hS0 ha (k := 52) rfl
    refine j_callV hx hG (c_X12_lays hst a v1) lk_RX12_403 ha (by decide) rfl rfl rfl rfl [.int (zI v1)] ⟨rfl, hG, hS_s2, ha, (by omega), (by omega), (by omega)⟩ rfl rfl ⟨by decide, by decide⟩ ⟨by decide, by decide⟩ (k2 := 0) (n2 := 0) rfl rfl (Nat.le_of_ble_eq_true rfl) dX12_turn_24 (kVM (fun s3 hS_s3 hF_s3 q36 => ?_))
    refine j_aload_n hx 1 dX12_turn_27 rfl ?_
    refine j_iload_n hx 0 dX12_turn_28 rfl ?_
    refine j_callV hx hG (c_X12_plans hst a v1) lk_RX12_406 ha (by decide) rfl rfl rfl rfl [.int (zI v1)] ⟨rfl, hG, hS_s3, ha, (by omega), ((by rw [(zFr_g hF_s3 (zr (k := 34) (t2 := 91) hG ha rfl) (by decide)), (zFr_g hF_s2 (zr (k := 34) (t2 := 91) hG ha rfl) (by decide)), (zFr_g hF_s1 (zr (k := 34) (t2 := 91) hG ha rfl) (by decide)), (zFr_g hF_s3 (zr (k := 35) (t2 := 92) hG ha rfl) (by decide)), (zFr_g hF_s2 (zr (k := 35) (t2 := 92) hG ha rfl) (by decide)), (zFr_g hF_s1 (zr (k := 35) (t2 := 92) hG ha rfl) (by decide)), (zFr_g hF_s3 (zr (k := 37) (t2 := 94) hG ha rfl) (by decide)), (zFr_g hF_s2 (zr (k := 37) (t2 := 94) hG ha rfl) (by decide)), (zFr_g hF_s1 (zr (k := 37) (t2 := 94) hG ha rfl) (by decide))]; exact e1))⟩ rfl rfl ⟨by decide, by decide⟩ ⟨by decide, by decide⟩ (k2 := 0) (n2 := 0) rfl rfl (Nat.le_of_ble_eq_true rfl) dX12_turn_29 (kVM (fun s4 hS_s4 hF_s4 q38 => ?_))
    refine j_aload_n hx 1 dX12_turn_32 rfl ?_
    refine j_callV hx hG (c_X12_judges hst a) lk_RX12_409 ha (by decide) rfl rfl rfl rfl [] ⟨rfl, hG, hS_s4, ha, (by omega)⟩ rfl rfl ⟨by decide, by decide⟩ ⟨by decide, by decide⟩ (k2 := 0) (n2 := 0) rfl rfl (Nat.le_of_ble_eq_true rfl) dX12_turn_33 (kVM (fun s5 hS_s5 hF_s5 q40 => ?_))
    refine j_aload_n hx 1 dX12_turn_36 rfl ?_
    refine g13_27 hx hG ha kf_RX12_56 dX12_turn_37 ?_
    refine j_sipush hx dX12_turn_40 rfl ?_
    refine j_dup2 hx dX12_turn_43 rfl rfl ?_
    have f41 := zaQ (j := 488) hS_s5 (zr (k := 27) (t2 := 84) hG ha rfl) (congrArg some (axS_4 488 (by omega))) (zlen hG (zr (k := 27) (t2 := 84) hG ha rfl) (n := 515) rfl rfl) (show 0 ≤ 488 by omega) (by omega) rfl
    refine j_iald hx hG (zr (k := 27) (t2 := 84) hG ha rfl) (by decide) rfl (zlen hG (zr (k := 27) (t2 := 84) hG ha rfl) (n := 515) rfl rfl) (by omega) (by omega) (j := 488) rfl rfl dX12_turn_44 ?_
    refine j_iconst hx dX12_turn_45 ?_
    refine j_iadd hx (r := (s5 (gP G a 27) 488) + 1) dX12_turn_46 (by omega) ?_
    refine j_iast hx hG (zr (k := 27) (t2 := 84) hG ha rfl) (by decide) rfl (zlen hG (zr (k := 27) (t2 := 84) hG ha rfl) (n := 515) rfl rfl) (by omega) (by omega) (j := 488) rfl dX12_turn_47 ?_
    obtain ⟨s6, e_s6⟩ : ∃ z, z = zU s5 (gP G a 27) 488 ((s5 (gP G a 27) 488) + 1) := ⟨_, rfl⟩
    rw [← e_s6]
    have hS_s6 : zSK G s6 := by rw [e_s6]; exact zSK_a hS_s5 (zr (k := 27) (t2 := 84) hG ha rfl) rfl rfl (congrArg some (axS_4 488 (by omega))) (by omega)
    have z42 : zc (s6 (gP G a 27)) = zc (s5 (gP G a 27)) := by rw [e_s6]; exact zc_o (by omega)
    refine j_aload_n hx 1 dX12_turn_48 rfl ?_
    refine g13_27 hx hG ha kf_RX12_56 dX12_turn_49 ?_
    refine j_sipush hx dX12_turn_52 rfl ?_
    refine j_iload_n hx 0 dX12_turn_55 rfl ?_
    refine j_iast hx hG (zr (k := 27) (t2 := 84) hG ha rfl) (by decide) rfl (zlen hG (zr (k := 27) (t2 := 84) hG ha rfl) (n := 515) rfl rfl) (by omega) (by omega) (j := 487) rfl dX12_turn_56 ?_
    obtain ⟨s7, e_s7⟩ : ∃ z, z = zU s6 (gP G a 27) 487 v1 := ⟨_, rfl⟩
    rw [← e_s7]
    have hS_s7 : zSK G s7 := by rw [e_s7]; exact zSK_a hS_s6 (zr (k := 27) (t2 := 84) hG ha rfl) rfl rfl (congrArg some (axS_3 487 (by omega))) (by omega)
    have z43 : zc (s7 (gP G a 27)) = zc (s6 (gP G a 27)) := by rw [e_s7]; exact zc_o (by omega)
    refine j_iconst hx dX12_turn_57 ?_
    have g44 : s7 (gP G a 27) 488 = (s5 (gP G a 27) 488) + 1 := (by rw [e_s7, zU_at (Or.inr (by decide)), e_s6, zU_eq])
    have g45 : s7 a 0 = s3 a 0 := (by rw [e_s7, zU_at (Or.inl (zne (zr (k := 27) (t2 := 84) hG ha rfl) ha (by decide))), e_s6, zU_at (Or.inl (zne (zr (k := 27) (t2 := 84) hG ha rfl) ha (by decide))), (zFr_g hF_s5 ha (by decide)), (zFr_g hF_s4 ha (by decide))])
    have f46 := zf hS_s3 ha (k := 0) rfl
    have g47 : s7 a 3 = s3 a 3 := (by rw [e_s7, zU_at (Or.inl (zne (zr (k := 27) (t2 := 84) hG ha rfl) ha (by decide))), e_s6, zU_at (Or.inl (zne (zr (k := 27) (t2 := 84) hG ha rfl) ha (by decide))), (zFr_g hF_s5 ha (by decide)), (zFr_g hF_s4 ha (by decide))])
    have f48 := zf hS_s3 ha (k := 3) rfl
    have g49 : s7 a 4 = s3 a 4 := (by rw [e_s7, zU_at (Or.inl (zne (zr (k := 27) (t2 := 84) hG ha rfl) ha (by decide))), e_s6, zU_at (Or.inl (zne (zr (k := 27) (t2 := 84) hG ha rfl) ha (by decide))), (zFr_g hF_s5 ha (by decide)), (zFr_g hF_s4 ha (by decide))])
    have f50 := zf hS_s3 ha (k := 4) rfl
    have g51 : s7 a 5 = s3 a 5 := (by rw [e_s7, zU_at (Or.inl (zne (zr (k := 27) (t2 := 84) hG ha rfl) ha (by decide))), e_s6, zU_at (Or.inl (zne (zr (k := 27) (t2 := 84) hG ha rfl) ha (by decide))), (zFr_g hF_s5 ha (by decide)), (zFr_g hF_s4 ha (by decide))])
    have f52 := zf hS_s3 ha (k := 5) rfl
    have g53 : s7 a 7 = s3 a 7 := (by rw [e_s7, zU_at (Or.inl (zne (zr (k := 27) (t2 := 84) hG ha rfl) ha (by decide))), e_s6, zU_at (Or.inl (zne (zr (k := 27) (t2 := 84) hG ha rfl) ha (by decide))), (zFr_g hF_s5 ha (by decide)), (zFr_g hF_s4 ha (by decide))])
    have f54 := zf hS_s3 ha (k := 7) rfl
    have g55 : s7 a 21 = s3 a 21 := (by rw [e_s7, zU_at (Or.inl (zne (zr (k := 27) (t2 := 84) hG ha rfl) ha (by decide))), e_s6, zU_at (Or.inl (zne (zr (k := 27) (t2 := 84) hG ha rfl) ha (by decide))), (zFr_g hF_s5 ha (by decide)), (zFr_g hF_s4 ha (by decide))])
    have f56 := zf hS_s3 ha (k := 21) rfl
    have g57 : s7 a 22 = s3 a 22 := (by rw [e_s7, zU_at (Or.inl (zne (zr (k := 27) (t2 := 84) hG ha rfl) ha (by decide))), e_s6, zU_at (Or.inl (zne (zr (k := 27) (t2 := 84) hG ha rfl) ha (by decide))), (zFr_g hF_s5 ha (by decide)), (zFr_g hF_s4 ha (by decide))])
    have f58 := zf hS_s3 ha (k := 22) rfl
    have g59 : s7 a 23 = s3 a 23 := (by rw [e_s7, zU_at (Or.inl (zne (zr (k := 27) (t2 := 84) hG ha rfl) ha (by decide))), e_s6, zU_at (Or.inl (zne (zr (k := 27) (t2 := 84) hG ha rfl) ha (by decide))), (zFr_g hF_s5 ha (by decide)), (zFr_g hF_s4 ha (by decide))])
    have f60 := zf hS_s3 ha (k := 23) rfl
    have g61 : s7 a 24 = s3 a 24 := (by rw [e_s7, zU_at (Or.inl (zne (zr (k := 27) (t2 := 84) hG ha rfl) ha (by decide))), e_s6, zU_at (Or.inl (zne (zr (k := 27) (t2 := 84) hG ha rfl) ha (by decide))), (zFr_g hF_s5 ha (by decide)), (zFr_g hF_s4 ha (by decide))])
    have f62 := zf hS_s3 ha (k := 24) rfl
    have g63 : s7 a 38 = s3 a 38 := (by rw [e_s7, zU_at (Or.inl (zne (zr (k := 27) (t2 := 84) hG ha rfl) ha (by decide))), e_s6, zU_at (Or.inl (zne (zr (k := 27) (t2 := 84) hG ha rfl) ha (by decide))), (zFr_g hF_s5 ha (by decide)), (zFr_g hF_s4 ha (by decide))])
    have f64 := zf hS_s3 ha (k := 38) rfl
    have g65 : s7 a 51 = s3 a 51 := (by rw [e_s7, zU_at (Or.inl (zne (zr (k := 27) (t2 := 84) hG ha rfl) ha (by decide))), e_s6, zU_at (Or.inl (zne (zr (k := 27) (t2 := 84) hG ha rfl) ha (by decide))), (zFr_g hF_s5 ha (by decide)), (zFr_g hF_s4 ha (by decide))])
    have f66 := zf hS_s3 ha (k := 51) rfl
    have g67 : s7 a 52 = s3 a 52 := (by rw [e_s7, zU_at (Or.inl (zne (zr (k := 27) (t2 := 84) hG ha rfl) ha (by decide))), e_s6, zU_at (Or.inl (zne (zr (k := 27) (t2 := 84) hG ha rfl) ha (by decide))), (zFr_g hF_s5 ha (by decide)), (zFr_g hF_s4 ha (by decide))])
    have f68 := zf hS_s3 ha (k := 52) rfl
    exact j_zret hx hq rfl (by decide) (by decide) dX12_turn_58 (by omega) ⟨1, rfl, rfl, hS_s7, (zFr_u (zFr_u (zFr_t (zFr_t (zFr_t (zFr_t (zFr_t zFr_rf hF_s1 (by decide)) hF_s2 (by decide)) hF_s3 (by decide)) hF_s4 (by decide)) hF_s5 (by decide)) e_s6 (zr (k := 27) (t2 := 84) hG ha rfl) (by decide)) e_s7 (zr (k := 27) (t2 := 84) hG ha rfl) (by decide)), ⟨(by omega), by omega, by omega, by omega, by omega, by omega, by omega, by omega, by omega, by omega, by omega, by omega, by omega, by omega, by omega⟩⟩
  · skip
    refine j_iconst hx dX12_turn_10 ?_
    have f69 := zf hS0 ha (k := 0) rfl
    have f70 := zf hS0 ha (k := 3) rfl
    have f71 := zf hS0 ha (k := 4) rfl
    have f72 := zf hS0 ha (k := 5) rfl
    have f73 := zf hS0 ha (k := 7) rfl
    have f74 := zf hS0 ha (k := 21) rfl
    have f75 := zf hS0 ha (k := 22) rfl
    have f76 := zf hS0 ha (k := 23) rfl
    have f77 := zf hS0 ha (k := 24) rfl
    have f78 := zf hS0 ha (k := 38) rfl
    have f79 := zf hS0 ha (k := 51) rfl
    have f80 := zf hS0 ha (k := 52) rfl
    exact j_zret hx hq rfl (by decide) (by decide) dX12_turn_11 (by omega) ⟨0, rfl, rfl, hS0, zFr_rf, ⟨(by omega), by omega, by omega, by omega, by omega, by omega, by omega, by omega, by omega, by omega, by omega, by omega, by omega, by omega, by omega⟩⟩

set_option maxHeartbeats 4000000 in
set_option maxRecDepth 20000 in
theorem c_X12_notes {E : zE} {l : Launch} (hst : l.stackTraces = false) (a : Nat) : Con E l yX12_notes cX12_notes 1 none { frames := 0, cells := 0, slots := 0, locals := 0 } (fun G s vs => vs = [.ref a] ∧ zGK G ∧ zSK G s ∧ (gT G a = 13) ∧ (1 ≤ s (gP G a 27) 488)) (fun G s _ => pV (fun G2 s2 => G2 = G ∧ zSK G s2 ∧ zFr [86] G s s2 ∧ True)) := by
  refine Con.mk hst (by decide) (fun G s vs h => by rw [h.1]; exact Nat.le_of_ble_eq_true rfl) ?_
  rintro X G s0 vs ⟨rfl, hG, hS0, ha, e0⟩ rfl hx hq
  show JJ X E 1 G s0 0 0 [(0, .ref a)] 0 []
  refine j_aload_n hx 0 dX12_notes_0 rfl ?_
  refine g13_27 hx hG ha kf_RX12_56 dX12_notes_1 ?_
  refine j_sipush hx dX12_notes_4 rfl ?_
  have f1 := zaQ (j := 488) hS0 (zr (k := 27) (t2 := 84) hG ha rfl) (congrArg some (axS_4 488 (by omega))) (zlen hG (zr (k := 27) (t2 := 84) hG ha rfl) (n := 515) rfl rfl) (show 0 ≤ 488 by omega) (by omega) rfl
  refine j_iald hx hG (zr (k := 27) (t2 := 84) hG ha rfl) (by decide) rfl (zlen hG (zr (k := 27) (t2 := 84) hG ha rfl) (n := 515) rfl rfl) (by omega) (by omega) (j := 488) rfl rfl dX12_notes_7 ?_
  refine j_sipush hx dX12_notes_8 rfl ?_
  refine j_icmp_gt hx 35 dX12_notes_11 rfl (by omega) ⟨by decide, by decide⟩ (fun h2 => ?_) (fun h2 => ?_)
  · skip
    exact j_vret hx hq rfl (by decide) (by decide) dX12_notes_35 ⟨rfl, rfl, hS0, zFr_rf, trivial⟩
  · skip
    refine j_aload_n hx 0 dX12_notes_14 rfl ?_
    refine g13_29 hx hG ha kf_RX12_62 dX12_notes_15 ?_
    refine j_aload_n hx 0 dX12_notes_18 rfl ?_
    refine g13_27 hx hG ha kf_RX12_56 dX12_notes_19 ?_
    refine j_sipush hx dX12_notes_22 rfl ?_
    refine j_iald hx hG (zr (k := 27) (t2 := 84) hG ha rfl) (by decide) rfl (zlen hG (zr (k := 27) (t2 := 84) hG ha rfl) (n := 515) rfl rfl) (by omega) (by omega) (j := 488) rfl rfl dX12_notes_25 ?_
    refine j_iconst hx dX12_notes_26 ?_
    refine j_isub hx (r := (s0 (gP G a 27) 488) - 1) dX12_notes_27 (by omega) ?_
    refine j_aload_n hx 0 dX12_notes_28 rfl ?_
    refine g13_30 hx hG ha kf_RX12_65 dX12_notes_29 ?_
    refine j_iconst hx dX12_notes_32 ?_
    have f3 := zaI (j := 0) hS0 (zr (k := 30) (t2 := 87) hG ha rfl) rfl (zlen hG (zr (k := 30) (t2 := 87) hG ha rfl) (n := 5) rfl rfl) (show 0 ≤ 0 by omega) (by omega) rfl
    refine j_iald hx hG (zr (k := 30) (t2 := 87) hG ha rfl) (by decide) rfl (zlen hG (zr (k := 30) (t2 := 87) hG ha rfl) (n := 5) rfl rfl) (by omega) (by omega) (j := 0) rfl rfl dX12_notes_33 ?_
    refine j_iast hx hG (zr (k := 29) (t2 := 86) hG ha rfl) (by decide) rfl (zlen hG (zr (k := 29) (t2 := 86) hG ha rfl) (n := 10000) rfl rfl) (by omega) (by omega) (j := ((s0 (gP G a 27) 488) - 1).toNat) rfl dX12_notes_34 ?_
    obtain ⟨s1, e_s1⟩ : ∃ z, z = zU s0 (gP G a 29) ((s0 (gP G a 27) 488) - 1).toNat ((s0 (gP G a 30) 0)) := ⟨_, rfl⟩
    rw [← e_s1]
    have hS_s1 : zSK G s1 := by rw [e_s1]; exact zSK_A hS0 (zr (k := 29) (t2 := 86) hG ha rfl) rfl rfl rfl (by omega)
    exact j_vret hx hq rfl (by decide) (by decide) dX12_notes_35 ⟨rfl, rfl, hS_s1, (zFr_u zFr_rf e_s1 (zr (k := 29) (t2 := 86) hG ha rfl) (by decide)), trivial⟩

theorem lk_RX12_412 : LkV RX12 412 RX12 yX12_turn cX12_turn 2 (some .boolean) 0 := ⟨km_RX12_412, ki_yX12_turn, ks_RX12_yX12_turn, kn_RX12, kc_yX12_turn, rfl, by decide +kernel, by decide +kernel, by decide +kernel⟩
theorem lk_RX12_414 : LkV RX12 414 RX12 yX12_notes cX12_notes 1 none 0 := ⟨km_RX12_414, ki_yX12_notes, ks_RX12_yX12_notes, kn_RX12, kc_yX12_notes, rfl, by decide +kernel, by decide +kernel, by decide +kernel⟩
set_option maxHeartbeats 4000000 in
set_option maxRecDepth 20000 in
theorem c_X12_play {E : zE} {l : Launch} (hst : l.stackTraces = false) (a : Nat) (x1 : Int) : Con E l yX12_play cX12_play 3 (some .int) { frames := 6, cells := 0, slots := 0, locals := 141 } (fun G s vs => vs = [.ref a, .int (zI x1)] ∧ zGK G ∧ zSK G s ∧ (gT G a = 13) ∧ ((-2147483648) ≤ x1 ∧ x1 ≤ 2147483647) ∧ (zRva (s (gP G a 34)) (s (gP G a 35)) (s (gP G a 37))) ∧ (zc (s (gP G a 27)) ≤ 60) ∧ (s (gP G a 27) 488 ≤ 520000)) (fun G s _ => pI (fun r G2 s2 => G2 = G ∧ zSK G s2 ∧ zFr [13, 71, 84, 86, 87, 95, 98] G s s2 ∧ ((-2147483648) ≤ r ∧ r ≤ 2147483647) ∧ zc (s2 (gP G a 27)) = zc (s (gP G a 27)) ∧ s2 (gP G a 27) 488 ≤ s (gP G a 27) 488 + 999 ∧ s2 a 3 = s a 3 ∧ s2 a 4 = s a 4 ∧ s2 a 5 = s a 5 ∧ s2 a 7 = s a 7 ∧ s2 a 21 = s a 21 ∧ s2 a 22 = s a 22 ∧ s2 a 23 = s a 23 ∧ s2 a 24 = s a 24 ∧ s2 a 38 = s a 38 ∧ s2 a 51 = s a 51 ∧ s2 a 52 = s a 52)) := by
  refine Con.mk hst (by decide) (fun G s vs h => by rw [h.1]; exact Nat.le_of_ble_eq_true rfl) ?_
  rintro X G s0 vs ⟨rfl, hG, hS0, ha, hx1, e0, e1, e2⟩ rfl hx hq
  show JJ X E 3 G s0 0 0 [(0, .ref a), (1, .int (zI x1))] 0 []
  refine j_aload_n hx 0 dX12_play_0 rfl ?_
  refine j_iconst hx dX12_play_1 ?_
  refine p13_0 hx hG ha kf_RX12_3 dX12_play_2 ?_
  obtain ⟨s1, e_s1⟩ : ∃ z, z = zU s0 a 0 0 := ⟨_, rfl⟩
  rw [← e_s1]
  have hS_s1 : zSK G s1 := by rw [e_s1]; exact zSK_F hS0 ha rfl rfl rfl (by omega)
  refine j_aload_n hx 0 dX12_play_5 rfl ?_
  refine j_iload_n hx 1 dX12_play_6 rfl ?_
  refine j_iconst hx dX12_play_7 ?_
  refine j_sipush hx dX12_play_8 rfl ?_
  refine j_callS hx (c_X12_within hst x1 1 999) lk_RX12_314 [.int (zI x1), .int (zI 1), .int (zI 999)] ⟨rfl, hG, hS_s1, (by omega), (by omega), (by omega)⟩ rfl rfl ⟨by decide, by decide⟩ ⟨by decide, by decide⟩ (k2 := 0) (n2 := 0) rfl rfl (Nat.le_of_ble_eq_true rfl) dX12_play_11 (kIP (fun v1 q2 => ?_))
  refine j_iconst hx dX12_play_14 ?_
  refine j_iconst hx dX12_play_15 ?_
  rcases (show v1 = 0 ∨ v1 = 1 by omega) with rfl | rfl
  · skip
    have g4 : s1 a 0 = 0 := (by rw [e_s1, zU_eq])
    have g5 : s1 a 3 = s0 a 3 := (by rw [e_s1, zU_at (Or.inr (by decide))])
    have f6 := zf hS0 ha (k := 3) rfl
    have g7 : s1 a 4 = s0 a 4 := (by rw [e_s1, zU_at (Or.inr (by decide))])
    have f8 := zf hS0 ha (k := 4) rfl
    have g9 : s1 a 5 = s0 a 5 := (by rw [e_s1, zU_at (Or.inr (by decide))])
    have f10 := zf hS0 ha (k := 5) rfl
    have g11 : s1 a 7 = s0 a 7 := (by rw [e_s1, zU_at (Or.inr (by decide))])
    have f12 := zf hS0 ha (k := 7) rfl
    have g13 : s1 a 21 = s0 a 21 := (by rw [e_s1, zU_at (Or.inr (by decide))])
    have f14 := zf hS0 ha (k := 21) rfl
    have g15 : s1 a 22 = s0 a 22 := (by rw [e_s1, zU_at (Or.inr (by decide))])
    have f16 := zf hS0 ha (k := 22) rfl
    have g17 : s1 a 23 = s0 a 23 := (by rw [e_s1, zU_at (Or.inr (by decide))])
    have f18 := zf hS0 ha (k := 23) rfl
    have g19 : s1 a 24 = s0 a 24 := (by rw [e_s1, zU_at (Or.inr (by decide))])
    have f20 := zf hS0 ha (k := 24) rfl
    have g21 : s1 a 38 = s0 a 38 := (by rw [e_s1, zU_at (Or.inr (by decide))])
    have f22 := zf hS0 ha (k := 38) rfl
    have g23 : s1 a 51 = s0 a 51 := (by rw [e_s1, zU_at (Or.inr (by decide))])
    have f24 := zf hS0 ha (k := 51) rfl
    have g25 : s1 a 52 = s0 a 52 := (by rw [e_s1, zU_at (Or.inr (by decide))])
    have f26 := zf hS0 ha (k := 52) rfl
    refine j_callV hx hG (c_X12_may_f hst a 0 1 1) lk_RX12_240 ha (by decide) rfl rfl rfl rfl [.int (zI 0), .int (zI 1), .int (zI 1)] ⟨rfl, hG, hS_s1, ha, (by omega), (by omega), (by omega), (((by rw [e_s1, zU_eq]) : s1 a 0 = 0).trans (by omega))⟩ rfl rfl ⟨by decide, by decide⟩ ⟨by decide, by decide⟩ (k2 := 0) (n2 := 0) rfl rfl (Nat.le_of_ble_eq_true rfl) dX12_play_16 (kIM (fun v27 s2 hS_s2 hF_s2 q28 => ?_))
    refine j_if_ne hx 24 dX12_play_19 rfl (by omega) (fun h29 => absurd h29 (by omega)) (fun h29 => ?_)
    refine j_iconst hx dX12_play_22 ?_
    have g30 : zc (s2 (gP G a 27)) = zc (s0 (gP G a 27)) := by rw [(zFr_g hF_s2 (zr (k := 27) (t2 := 84) hG ha rfl) (by decide)), e_s1, zU_ne (zne (zr (k := 27) (t2 := 84) hG ha rfl) ha (by decide))]
    have g31 : s2 (gP G a 27) 488 = s0 (gP G a 27) 488 := (by rw [(zFr_g hF_s2 (zr (k := 27) (t2 := 84) hG ha rfl) (by decide)), e_s1, zU_at (Or.inl (zne ha (zr (k := 27) (t2 := 84) hG ha rfl) (by decide)))])
    have f32 := zf hS_s2 ha (k := 3) rfl
    have f33 := zf hS_s2 ha (k := 4) rfl
    have f34 := zf hS_s2 ha (k := 5) rfl
    have f35 := zf hS_s2 ha (k := 7) rfl
    have f36 := zf hS_s2 ha (k := 21) rfl
    have f37 := zf hS_s2 ha (k := 22) rfl
    have f38 := zf hS_s2 ha (k := 23) rfl
    have f39 := zf hS_s2 ha (k := 24) rfl
    have f40 := zf hS_s2 ha (k := 38) rfl
    have f41 := zf hS_s2 ha (k := 51) rfl
    have f42 := zf hS_s2 ha (k := 52) rfl
    exact j_iret hx hq rfl (by decide) (by decide) dX12_play_23 ⟨0, rfl, rfl, hS_s2, (zFr_t (zFr_u zFr_rf e_s1 ha (by decide)) hF_s2 (by decide)), ⟨(by omega), by omega, by omega, by omega, by omega, by omega, by omega, by omega, by omega, by omega, by omega, by omega, by omega, by omega⟩⟩
  · skip
    have g43 : s1 a 0 = 0 := (by rw [e_s1, zU_eq])
    refine j_callV hx hG (c_X12_may_t hst a 1 1 1) lk_RX12_240 ha (by decide) rfl rfl rfl rfl [.int (zI 1), .int (zI 1), .int (zI 1)] ⟨rfl, hG, hS_s1, ha, (by omega), (by omega), (by omega), (((by rw [e_s1, zU_eq]) : s1 a 0 = 0).trans (by omega))⟩ rfl rfl ⟨by decide, by decide⟩ ⟨by decide, by decide⟩ (k2 := 0) (n2 := 0) rfl rfl (Nat.le_of_ble_eq_true rfl) dX12_play_16 (kIP (fun v44 q45 => ?_))
    refine j_if_ne hx 24 dX12_play_19 rfl (by omega) (fun h46 => ?_) (fun h46 => absurd h46 (by omega))
    refine j_iconst hx dX12_play_24 ?_
    refine j_istore_n hx [(2, .int (zI 0)), (0, .ref a), (1, .int (zI x1))] dX12_play_25 (by decide) rfl ?_
    have g48 : s1 a 3 = s0 a 3 := (by rw [e_s1, zU_at (Or.inr (by decide))])
    have f49 := zf hS0 ha (k := 3) rfl
    have g50 : s1 a 4 = s0 a 4 := (by rw [e_s1, zU_at (Or.inr (by decide))])
    have f51 := zf hS0 ha (k := 4) rfl
    have g52 : s1 a 5 = s0 a 5 := (by rw [e_s1, zU_at (Or.inr (by decide))])
    have f53 := zf hS0 ha (k := 5) rfl
    have g54 : s1 a 7 = s0 a 7 := (by rw [e_s1, zU_at (Or.inr (by decide))])
    have f55 := zf hS0 ha (k := 7) rfl
    have g56 : s1 a 21 = s0 a 21 := (by rw [e_s1, zU_at (Or.inr (by decide))])
    have f57 := zf hS0 ha (k := 21) rfl
    have g58 : s1 a 22 = s0 a 22 := (by rw [e_s1, zU_at (Or.inr (by decide))])
    have f59 := zf hS0 ha (k := 22) rfl
    have g60 : s1 a 23 = s0 a 23 := (by rw [e_s1, zU_at (Or.inr (by decide))])
    have f61 := zf hS0 ha (k := 23) rfl
    have g62 : s1 a 24 = s0 a 24 := (by rw [e_s1, zU_at (Or.inr (by decide))])
    have f63 := zf hS0 ha (k := 24) rfl
    have g64 : s1 a 38 = s0 a 38 := (by rw [e_s1, zU_at (Or.inr (by decide))])
    have f65 := zf hS0 ha (k := 38) rfl
    have g66 : s1 a 51 = s0 a 51 := (by rw [e_s1, zU_at (Or.inr (by decide))])
    have f67 := zf hS0 ha (k := 51) rfl
    have g68 : s1 a 52 = s0 a 52 := (by rw [e_s1, zU_at (Or.inr (by decide))])
    have f69 := zf hS0 ha (k := 52) rfl
    have g70 : s1 (gP G a 27) 488 = s0 (gP G a 27) 488 := (by rw [e_s1, zU_at (Or.inl (zne ha (zr (k := 27) (t2 := 84) hG ha rfl) (by decide)))])
    have g71 : zc (s1 (gP G a 27)) = zc (s0 (gP G a 27)) := by rw [e_s1, zU_ne (zne (zr (k := 27) (t2 := 84) hG ha rfl) ha (by decide))]
    have c26_3 : ∀ (m_c26_3 : Nat) (v47 : Int) (s4 : zS), 2147483648 - v47 < m_c26_3 → (0 ≤ v47 ∧ v47 ≤ 999) → (zSK G s4) → (zFr [13, 84, 86, 87, 95, 98] G s1 s4) → (s4 a 0 = s1 a 0) → (s4 a 3 = s1 a 3) → (s4 a 4 = s1 a 4) → (s4 a 5 = s1 a 5) → (s4 a 7 = s1 a 7) → (s4 a 21 = s1 a 21) → (s4 a 22 = s1 a 22) → (s4 a 23 = s1 a 23) → (s4 a 24 = s1 a 24) → (s4 a 38 = s1 a 38) → (s4 a 51 = s1 a 51) → (s4 a 52 = s1 a 52) → (zc (s4 (gP G a 27)) = zc (s1 (gP G a 27))) → (s4 (gP G a 27) 488 ≤ s1 (gP G a 27) 488 + v47) → (v47 ≤ x1) → JJ X E 3 G s4 0 0 [(0, .ref a), (1, .int (zI x1)), (2, .int (zI v47))] 26 [] := by
      intro m_c26_3
      induction m_c26_3 with
      | zero => intro v47 s4 hm_c26_3 fA5 hS_s4 hF_s4 fA8 fA9 fA10 fA11 fA12 fA13 fA14 fA15 fA16 fA17 fA18 fA19 fA20 fA21 fA22; exfalso; omega
      | succ m_c26_3 ih_c26_3 => 
        intro v47 s4 hm_c26_3 fA5 hS_s4 hF_s4 fA8 fA9 fA10 fA11 fA12 fA13 fA14 fA15 fA16 fA17 fA18 fA19 fA20 fA21 fA22
        refine j_iload_n hx 2 dX12_play_26 rfl ?_
        refine j_iload_n hx 1 dX12_play_27 rfl ?_
        refine j_icmp_ge hx 48 dX12_play_28 rfl (by omega) (by omega) (fun h72 => ?_) (fun h72 => ?_)
        · skip
          refine j_iload_n hx 2 dX12_play_48 rfl ?_
          have f73 := zf hS_s4 ha (k := 3) rfl
          have f74 := zf hS_s4 ha (k := 4) rfl
          have f75 := zf hS_s4 ha (k := 5) rfl
          have f76 := zf hS_s4 ha (k := 7) rfl
          have f77 := zf hS_s4 ha (k := 21) rfl
          have f78 := zf hS_s4 ha (k := 22) rfl
          have f79 := zf hS_s4 ha (k := 23) rfl
          have f80 := zf hS_s4 ha (k := 24) rfl
          have f81 := zf hS_s4 ha (k := 38) rfl
          have f82 := zf hS_s4 ha (k := 51) rfl
          have f83 := zf hS_s4 ha (k := 52) rfl
          exact j_iret hx hq rfl (by decide) (by decide) dX12_play_49 ⟨v47, rfl, rfl, hS_s4, (zFr_t (zFr_u zFr_rf e_s1 ha (by decide)) hF_s4 (by decide)), ⟨(by omega), by omega, by omega, by omega, by omega, by omega, by omega, by omega, by omega, by omega, by omega, by omega, by omega, by omega⟩⟩
        · skip
          refine j_aload_n hx 0 dX12_play_31 rfl ?_
          have f84 := zf hS_s4 ha (k := 0) rfl
          have f85 := zf hS_s4 ha (k := 3) rfl
          have f86 := zf hS_s4 ha (k := 4) rfl
          have f87 := zf hS_s4 ha (k := 5) rfl
          have f88 := zf hS_s4 ha (k := 7) rfl
          have f89 := zf hS_s4 ha (k := 21) rfl
          have f90 := zf hS_s4 ha (k := 22) rfl
          have f91 := zf hS_s4 ha (k := 23) rfl
          have f92 := zf hS_s4 ha (k := 24) rfl
          have f93 := zf hS_s4 ha (k := 38) rfl
          have f94 := zf hS_s4 ha (k := 51) rfl
          have f95 := zf hS_s4 ha (k := 52) rfl
          refine j_callV hx hG (c_X12_turn hst a) lk_RX12_412 ha (by decide) rfl rfl rfl rfl [] ⟨rfl, hG, hS_s4, ha, (by omega), ((by rw [(zFr_g hF_s4 (zr (k := 34) (t2 := 91) hG ha rfl) (by decide)), e_s1, zU_ne (zne (zr (k := 34) (t2 := 91) hG ha rfl) ha (by decide)), (zFr_g hF_s4 (zr (k := 35) (t2 := 92) hG ha rfl) (by decide)), e_s1, zU_ne (zne (zr (k := 35) (t2 := 92) hG ha rfl) ha (by decide)), (zFr_g hF_s4 (zr (k := 37) (t2 := 94) hG ha rfl) (by decide)), e_s1, zU_ne (zne (zr (k := 37) (t2 := 94) hG ha rfl) ha (by decide))]; exact e0)), (by omega)⟩ rfl rfl ⟨by decide, by decide⟩ ⟨by decide, by decide⟩ (k2 := 0) (n2 := 0) rfl rfl (Nat.le_of_ble_eq_true rfl) dX12_play_32 (kIM (fun v96 s23 hS_s23 hF_s23 q97 => ?_))
          refine j_if_eq hx 48 dX12_play_35 rfl (by omega) (fun h98 => ?_) (fun h98 => ?_)
          · skip
            refine j_iload_n hx 2 dX12_play_48 rfl ?_
            have f99 := zf hS_s23 ha (k := 3) rfl
            have f100 := zf hS_s23 ha (k := 4) rfl
            have f101 := zf hS_s23 ha (k := 5) rfl
            have f102 := zf hS_s23 ha (k := 7) rfl
            have f103 := zf hS_s23 ha (k := 21) rfl
            have f104 := zf hS_s23 ha (k := 22) rfl
            have f105 := zf hS_s23 ha (k := 23) rfl
            have f106 := zf hS_s23 ha (k := 24) rfl
            have f107 := zf hS_s23 ha (k := 38) rfl
            have f108 := zf hS_s23 ha (k := 51) rfl
            have f109 := zf hS_s23 ha (k := 52) rfl
            exact j_iret hx hq rfl (by decide) (by decide) dX12_play_49 ⟨v47, rfl, rfl, hS_s23, (zFr_t (zFr_t (zFr_u zFr_rf e_s1 ha (by decide)) hF_s4 (by decide)) hF_s23 (by decide)), ⟨(by omega), by omega, by omega, by omega, by omega, by omega, by omega, by omega, by omega, by omega, by omega, by omega, by omega, by omega⟩⟩
          · skip
            refine j_aload_n hx 0 dX12_play_38 rfl ?_
            refine j_callV hx hG (c_X12_notes hst a) lk_RX12_414 ha (by decide) rfl rfl rfl rfl [] ⟨rfl, hG, hS_s23, ha, (by omega)⟩ rfl rfl ⟨by decide, by decide⟩ ⟨by decide, by decide⟩ (k2 := 0) (n2 := 0) rfl rfl (Nat.le_of_ble_eq_true rfl) dX12_play_39 (kVM (fun s24 hS_s24 hF_s24 q111 => ?_))
            refine j_iinc hx 2 [(2, .int (zI (v47 + 1))), (0, .ref a), (1, .int (zI x1))] dX12_play_42 rfl (by omega) (by decide) rfl ?_
            refine j_goto hx 26 dX12_play_45 rfl ?_
            have g112 : s24 a 0 = s23 a 0 := (by rw [(zFr_g hF_s24 ha (by decide))])
            have f113 := zf hS_s23 ha (k := 0) rfl
            have g114 : s24 a 3 = s23 a 3 := (by rw [(zFr_g hF_s24 ha (by decide))])
            have f115 := zf hS_s23 ha (k := 3) rfl
            have g116 : s24 a 4 = s23 a 4 := (by rw [(zFr_g hF_s24 ha (by decide))])
            have f117 := zf hS_s23 ha (k := 4) rfl
            have g118 : s24 a 5 = s23 a 5 := (by rw [(zFr_g hF_s24 ha (by decide))])
            have f119 := zf hS_s23 ha (k := 5) rfl
            have g120 : s24 a 7 = s23 a 7 := (by rw [(zFr_g hF_s24 ha (by decide))])
            have f121 := zf hS_s23 ha (k := 7) rfl
            have g122 : s24 a 21 = s23 a 21 := (by rw [(zFr_g hF_s24 ha (by decide))])
            have f123 := zf hS_s23 ha (k := 21) rfl
            have g124 : s24 a 22 = s23 a 22 := (by rw [(zFr_g hF_s24 ha (by decide))])
            have f125 := zf hS_s23 ha (k := 22) rfl
            have g126 : s24 a 23 = s23 a 23 := (by rw [(zFr_g hF_s24 ha (by decide))])
            have f127 := zf hS_s23 ha (k := 23) rfl
            have g128 : s24 a 24 = s23 a 24 := (by rw [(zFr_g hF_s24 ha (by decide))])
            have f129 := zf hS_s23 ha (k := 24) rfl
            have g130 : s24 a 38 = s23 a 38 := (by rw [(zFr_g hF_s24 ha (by decide))])
            have f131 := zf hS_s23 ha (k := 38) rfl
            have g132 : s24 a 51 = s23 a 51 := (by rw [(zFr_g hF_s24 ha (by decide))])
            have f133 := zf hS_s23 ha (k := 51) rfl
            have g134 : s24 a 52 = s23 a 52 := (by rw [(zFr_g hF_s24 ha (by decide))])
            have f135 := zf hS_s23 ha (k := 52) rfl
            have g136 : zc (s24 (gP G a 27)) = zc (s23 (gP G a 27)) := by rw [(zFr_g hF_s24 (zr (k := 27) (t2 := 84) hG ha rfl) (by decide))]
            have g137 : s24 (gP G a 27) 488 = s23 (gP G a 27) 488 := (by rw [(zFr_g hF_s24 (zr (k := 27) (t2 := 84) hG ha rfl) (by decide))])
            exact j_sub [1, 2, 0] [(0, .ref a), (1, .int (zI x1)), (2, .int (zI (v47 + 1)))] rfl (ih_c26_3 (v47 + 1) s24 (by omega) (by omega) hS_s24 (zFr_t (zFr_t (zFr_t zFr_rf hF_s4 (by decide)) hF_s23 (by decide)) hF_s24 (by decide)) (by omega) (by omega) (by omega) (by omega) (by omega) (by omega) (by omega) (by omega) (by omega) (by omega) (by omega) (by omega) (by omega) (by omega) (by omega))
    exact j_sub [1, 2, 0] [(0, .ref a), (1, .int (zI x1)), (2, .int (zI 0))] rfl (c26_3 (2147483648 * 4) 0 s1 (by omega) (by omega) hS_s1 zFr_rf (by omega) (by omega) (by omega) (by omega) (by omega) (by omega) (by omega) (by omega) (by omega) (by omega) (by omega) (by omega) (by omega) (by omega) (by omega))
