set_option maxHeartbeats 1200000 in
set_option maxRecDepth 20000 in
theorem c_X12_waysOf_8 {E : zE} {l : Launch} (hst : l.stackTraces = false) (a : Nat) (x1 : Int) (x2 : Int) (x3 : Int) : Con E l yX12_waysOf cX12_waysOf 8 (some .long) { frames := 8, cells := 0, slots := 0, locals := 199 } (fun G s vs => vs = [.ref a, .int (zI x1), .int (zI x2), .int (zI x3)] ∧ zGK G ∧ zSK G s ∧ (gT G a = 13) ∧ (0 ≤ x1 ∧ x1 ≤ 2) ∧ (0 ≤ x2 ∧ x2 ≤ 4) ∧ (8 ≤ x3 ∧ x3 ≤ 8) ∧ (zc (s (gP G a 27)) ≤ 60) ∧ (s (gP G a 27) 488 ≤ 590008) ∧ (zDp (s (gP G a 55)))) (fun G s _ => pL (fun r G2 s2 => G2 = G ∧ zSK G s2 ∧ zFr [13, 84, 104] G s s2 ∧ ((-9223372036854775808) ≤ r ∧ r ≤ 9223372036854775807) ∧ zc (s2 (gP G a 27)) ≤ 60 ∧ s2 (gP G a 27) 488 ≤ 590013 ∧ zDp (s2 (gP G a 55)) ∧ s2 a 0 = s a 0 ∧ s2 a 3 = s a 3 ∧ s2 a 4 = s a 4 ∧ s2 a 5 = s a 5 ∧ s2 a 7 = s a 7 ∧ s2 a 21 = s a 21 ∧ s2 a 22 = s a 22 ∧ s2 a 23 = s a 23 ∧ s2 a 24 = s a 24 ∧ s2 a 38 = s a 38 ∧ s2 a 51 = s a 51 ∧ s2 a 52 = s a 52)) := by
  refine Con.mk hst (by decide) (fun G s vs h => by rw [h.1]; exact Nat.le_of_ble_eq_true rfl) ?_
  rintro X G s0 vs ⟨rfl, hG, hS0, ha, hx1, hx2, hx3, e0, e1, e2⟩ rfl hx hq
  obtain rfl : x3 = 8 := by omega
  show JJ X E 8 G s0 0 0 [(0, .ref a), (1, .int (zI x1)), (2, .int (zI x2)), (3, .int (zI 8))] 0 []
  refine j_iload_n hx 2 dX12_waysOf_0 rfl ?_
  refine j_if_ne hx 18 dX12_waysOf_1 rfl (by omega) (fun h1 => ?_) (fun h1 => ?_)
  · skip
    refine j_iconst hx dX12_waysOf_18 ?_
    refine j_istore hx [(4, .int (zI 0)), (0, .ref a), (1, .int (zI x1)), (2, .int (zI x2)), (3, .int (zI 8))] dX12_waysOf_19 (by decide) rfl ?_
    have c21_1 : ∀ (m_c21_1 : Nat) (v2 : Int) (s2 : zS), 2147483648 - v2 < m_c21_1 → (0 ≤ v2 ∧ v2 ≤ 515) → (zSK G s2) → (zFr [104] G s0 s2) → (zDx 8 (s2 (gP G a 55))) → (zEo (v2).toNat (s2 (gP G a 55)) (s0 (gP G a 27)) 4120) → JJ X E 8 G s2 0 0 [(0, .ref a), (1, .int (zI x1)), (2, .int (zI x2)), (3, .int (zI 8)), (4, .int (zI v2))] 21 [] := by
      intro m_c21_1
      induction m_c21_1 with
      | zero => intro v2 s2 hm_c21_1 fA3 hS_s2 hF_s2 hD1 hE1; exfalso; omega
      | succ m_c21_1 ih_c21_1 => 
        intro v2 s2 hm_c21_1 fA3 hS_s2 hF_s2 hD1 hE1
        refine j_iload hx 4 dX12_waysOf_21 rfl ?_
        refine j_sipush hx dX12_waysOf_23 rfl ?_
        refine j_icmp_ge hx 55 dX12_waysOf_26 rfl (by omega) ⟨by decide, by decide⟩ (fun h3 => ?_) (fun h3 => ?_)
        · skip
          have hP4 : zDp (s2 (gP G a 55)) := zDp_in (L := 8) hD1 hE1 (by omega) (by omega) (by omega)
          refine j_lconst hx dX12_waysOf_55 ?_
          show JJ X E 8 G s2 0 0 [(0, .ref a), (1, .int (zI x1)), (2, .int (zI x2)), (3, .int (zI 8)), (4, .int (zI v2))] 56 [.long (zL 0)]
          refine j_lstore hx [(4, .long (zL 0)), (0, .ref a), (1, .int (zI x1)), (2, .int (zI x2)), (3, .int (zI 8))] dX12_waysOf_56 (by decide) rfl ?_
          refine j_aload_n hx 1 dX12_waysOf_58 rfl ?_
          refine j_iconst hx dX12_waysOf_59 ?_
          have g5 : zc (s2 (gP G a 27)) = zc (s0 (gP G a 27)) := by rw [hF_s2 (gP G a 27) (by rw [(zr (k := 27) (t2 := 84) hG ha rfl)]; decide)]
          have g6 : s2 (gP G a 27) 488 = s0 (gP G a 27) 488 := (by rw [(zFr_g hF_s2 (zr (k := 27) (t2 := 84) hG ha rfl) (by decide))])
          have g7 : s2 a 0 = s0 a 0 := (by rw [(zFr_g hF_s2 ha (by decide))])
          have f8 := zf hS0 ha (k := 0) rfl
          have g9 : s2 a 3 = s0 a 3 := (by rw [(zFr_g hF_s2 ha (by decide))])
          have f10 := zf hS0 ha (k := 3) rfl
          have g11 : s2 a 4 = s0 a 4 := (by rw [(zFr_g hF_s2 ha (by decide))])
          have f12 := zf hS0 ha (k := 4) rfl
          have g13 : s2 a 5 = s0 a 5 := (by rw [(zFr_g hF_s2 ha (by decide))])
          have f14 := zf hS0 ha (k := 5) rfl
          have g15 : s2 a 7 = s0 a 7 := (by rw [(zFr_g hF_s2 ha (by decide))])
          have f16 := zf hS0 ha (k := 7) rfl
          have g17 : s2 a 21 = s0 a 21 := (by rw [(zFr_g hF_s2 ha (by decide))])
          have f18 := zf hS0 ha (k := 21) rfl
          have g19 : s2 a 22 = s0 a 22 := (by rw [(zFr_g hF_s2 ha (by decide))])
          have f20 := zf hS0 ha (k := 22) rfl
          have g21 : s2 a 23 = s0 a 23 := (by rw [(zFr_g hF_s2 ha (by decide))])
          have f22 := zf hS0 ha (k := 23) rfl
          have g23 : s2 a 24 = s0 a 24 := (by rw [(zFr_g hF_s2 ha (by decide))])
          have f24 := zf hS0 ha (k := 24) rfl
          have g25 : s2 a 38 = s0 a 38 := (by rw [(zFr_g hF_s2 ha (by decide))])
          have f26 := zf hS0 ha (k := 38) rfl
          have g27 : s2 a 51 = s0 a 51 := (by rw [(zFr_g hF_s2 ha (by decide))])
          have f28 := zf hS0 ha (k := 51) rfl
          have g29 : s2 a 52 = s0 a 52 := (by rw [(zFr_g hF_s2 ha (by decide))])
          have f30 := zf hS0 ha (k := 52) rfl
          refine j_callV hx hG (c_X12_turnFor hst a (-1)) lk_RX12_453 ha (by decide) rfl rfl rfl rfl [.int (zI (-1))] ⟨rfl, hG, hS_s2, ha, (by omega), (by omega), (by omega)⟩ rfl rfl ⟨by decide, by decide⟩ ⟨by decide, by decide⟩ (k2 := 0) (n2 := 0) rfl rfl (Nat.le_of_ble_eq_true rfl) dX12_waysOf_60 (kIM (fun v31 s8 hS_s8 hF_s8 q32 => ?_))
          refine j_if_ne hx 84 dX12_waysOf_63 rfl (by omega) (fun h33 => ?_) (fun h33 => ?_)
          · skip
            refine j_aload_n hx 1 dX12_waysOf_84 rfl ?_
            refine j_callV hx hG (c_X12_alikes hst a) lk_RX12_343 ha (by decide) rfl rfl rfl rfl [] ⟨rfl, hG, hS_s8, ha⟩ rfl rfl ⟨by decide, by decide⟩ ⟨by decide, by decide⟩ (k2 := 0) (n2 := 0) rfl rfl (Nat.le_of_ble_eq_true rfl) dX12_waysOf_85 (kIP (fun v34 q35 => ?_))
            refine j_iconst hx dX12_waysOf_88 ?_
            have f37 := zf hS_s8 ha (k := 0) rfl
            have f38 := zf hS_s8 ha (k := 3) rfl
            have f39 := zf hS_s8 ha (k := 4) rfl
            have f40 := zf hS_s8 ha (k := 5) rfl
            have f41 := zf hS_s8 ha (k := 7) rfl
            have f42 := zf hS_s8 ha (k := 21) rfl
            have f43 := zf hS_s8 ha (k := 22) rfl
            have f44 := zf hS_s8 ha (k := 23) rfl
            have f45 := zf hS_s8 ha (k := 24) rfl
            have f46 := zf hS_s8 ha (k := 38) rfl
            have f47 := zf hS_s8 ha (k := 51) rfl
            have f48 := zf hS_s8 ha (k := 52) rfl
            have c203_9 : ∀ (w36 : Int) (s10 : zS), ((-9223372036854775808) ≤ w36 ∧ w36 ≤ 9223372036854775807) → (zSK G s10) → (zFr [13, 84, 104] G s8 s10) → (s10 a 0 = s8 a 0) → (s10 a 3 = s8 a 3) → (s10 a 4 = s8 a 4) → (s10 a 5 = s8 a 5) → (s10 a 7 = s8 a 7) → (s10 a 21 = s8 a 21) → (s10 a 22 = s8 a 22) → (s10 a 23 = s8 a 23) → (s10 a 24 = s8 a 24) → (s10 a 38 = s8 a 38) → (s10 a 51 = s8 a 51) → (s10 a 52 = s8 a 52) → (zDp (s10 (gP G a 55))) → JJ X E 8 G s10 0 0 [(0, .ref a), (3, .int (zI 8)), (4, .long (zL w36))] 203 [] := by
              intro w36 s10 fA11 hS_s10 hF_s10 fA14 fA15 fA16 fA17 fA18 fA19 fA20 fA21 fA22 fA23 fA24 fA25 fA26
              refine j_iconst hx dX12_waysOf_203 ?_
              refine j_istore hx [(6, .int (zI 0)), (0, .ref a), (3, .int (zI 8)), (4, .long (zL w36))] dX12_waysOf_204 (by decide) rfl ?_
              have c206_27 : ∀ (m_c206_27 : Nat) (v49 : Int) (s28 : zS), 2147483648 - v49 < m_c206_27 → (0 ≤ v49 ∧ v49 ≤ 515) → (zSK G s28) → (zFr [84] G s10 s28) → (zEp (v49).toNat (s28 (gP G a 27)) (s10 (gP G a 55)) 4120) → JJ X E 8 G s28 0 0 [(0, .ref a), (3, .int (zI 8)), (4, .long (zL w36)), (6, .int (zI v49))] 206 [] := by
                intro m_c206_27
                induction m_c206_27 with
                | zero => intro v49 s28 hm_c206_27 fA29 hS_s28 hF_s28 hE3; exfalso; omega
                | succ m_c206_27 ih_c206_27 => 
                  intro v49 s28 hm_c206_27 fA29 hS_s28 hF_s28 hE3
                  refine j_iload hx 3 dX12_waysOf_206 rfl ?_
                  refine j_sipush hx dX12_waysOf_208 rfl ?_
                  refine j_icmp_ge hx 240 dX12_waysOf_211 rfl (by omega) ⟨by decide, by decide⟩ (fun h50 => ?_) (fun h50 => ?_)
                  · skip
                    have z51 := zEp_zc (L := 8) hE3 (by omega) fA26 (by decide)
                    refine j_lload hx 2 dX12_waysOf_240 rfl ?_
                    have g52 : s28 a 0 = s10 a 0 := (by rw [(zFr_g hF_s28 ha (by decide))])
                    have f53 := zf hS_s10 ha (k := 0) rfl
                    have g54 : s28 a 3 = s10 a 3 := (by rw [(zFr_g hF_s28 ha (by decide))])
                    have f55 := zf hS_s10 ha (k := 3) rfl
                    have g56 : s28 a 4 = s10 a 4 := (by rw [(zFr_g hF_s28 ha (by decide))])
                    have f57 := zf hS_s10 ha (k := 4) rfl
                    have g58 : s28 a 5 = s10 a 5 := (by rw [(zFr_g hF_s28 ha (by decide))])
                    have f59 := zf hS_s10 ha (k := 5) rfl
                    have g60 : s28 a 7 = s10 a 7 := (by rw [(zFr_g hF_s28 ha (by decide))])
                    have f61 := zf hS_s10 ha (k := 7) rfl
                    have g62 : s28 a 21 = s10 a 21 := (by rw [(zFr_g hF_s28 ha (by decide))])
                    have f63 := zf hS_s10 ha (k := 21) rfl
                    have g64 : s28 a 22 = s10 a 22 := (by rw [(zFr_g hF_s28 ha (by decide))])
                    have f65 := zf hS_s10 ha (k := 22) rfl
                    have g66 : s28 a 23 = s10 a 23 := (by rw [(zFr_g hF_s28 ha (by decide))])
                    have f67 := zf hS_s10 ha (k := 23) rfl
                    have g68 : s28 a 24 = s10 a 24 := (by rw [(zFr_g hF_s28 ha (by decide))])
                    have f69 := zf hS_s10 ha (k := 24) rfl
                    have g70 : s28 a 38 = s10 a 38 := (by rw [(zFr_g hF_s28 ha (by decide))])
                    have f71 := zf hS_s10 ha (k := 38) rfl
                    have g72 : s28 a 51 = s10 a 51 := (by rw [(zFr_g hF_s28 ha (by decide))])
                    have f73 := zf hS_s10 ha (k := 51) rfl
                    have g74 : s28 a 52 = s10 a 52 := (by rw [(zFr_g hF_s28 ha (by decide))])
                    have f75 := zf hS_s10 ha (k := 52) rfl
                    exact j_lret hx hq rfl (by decide) (by decide) dX12_waysOf_242 ⟨w36, rfl, rfl, hS_s28, (zFr_t (zFr_t (zFr_t (zFr_t zFr_rf hF_s2 (by decide)) hF_s8 (by decide)) hF_s10 (by decide)) hF_s28 (by decide)), ⟨(by omega), by omega, by omega, (by have q1 : s28 (gP G a 55) = s10 (gP G a 55) := (by rw [hF_s28 (gP G a 55) (by rw [(zr (k := 55) (t2 := 104) hG ha rfl)]; decide)]); rw [q1]; exact fA26), by omega, by omega, by omega, by omega, by omega, by omega, by omega, by omega, by omega, by omega, by omega, by omega⟩⟩
                  · skip
                    refine j_aload_n hx 0 dX12_waysOf_214 rfl ?_
                    refine g13_27 hx hG ha kf_RX12_56 dX12_waysOf_215 ?_
                    refine j_iload hx 3 dX12_waysOf_218 rfl ?_
                    refine j_aload_n hx 0 dX12_waysOf_220 rfl ?_
                    refine g13_55 hx hG ha kf_RX12_118 dX12_waysOf_221 ?_
                    refine j_sipush hx dX12_waysOf_224 rfl ?_
                    refine j_iload_n hx 1 dX12_waysOf_227 rfl ?_
                    refine j_imul hx (r := 4120) dX12_waysOf_228 (by omega) ?_
                    refine j_iload hx 3 dX12_waysOf_229 rfl ?_
                    refine j_iadd hx (r := v49 + 4120) dX12_waysOf_231 (by omega) ?_
                    have f76 := zah (j := (v49 + 4120).toNat) hS_s10 (zr (k := 55) (t2 := 104) hG ha rfl) (fun k => ⟨_, rfl, (axS_h _).1, (axS_h _).2.1⟩) (zlen hG (zr (k := 55) (t2 := 104) hG ha rfl) (n := 6695) rfl rfl) (show 0 ≤ v49 + 4120 by omega) (by omega) rfl
                    refine j_iald hx hG (zr (k := 55) (t2 := 104) hG ha rfl) (by decide) rfl (zlen hG (zr (k := 55) (t2 := 104) hG ha rfl) (n := 6695) rfl rfl) (by omega) (by omega) (j := (v49 + 4120).toNat) rfl (v := (s10 (gP G a 55) (v49 + 4120).toNat)) (by rw [(zFr_g hF_s28 (zr (k := 55) (t2 := 104) hG ha rfl) (by decide))]) dX12_waysOf_232 ?_
                    refine j_iast hx hG (zr (k := 27) (t2 := 84) hG ha rfl) (by decide) rfl (zlen hG (zr (k := 27) (t2 := 84) hG ha rfl) (n := 515) rfl rfl) (by omega) (by omega) (j := (v49).toNat) rfl dX12_waysOf_233 ?_
                    obtain ⟨s33, e_s33⟩ : ∃ z, z = zU s28 (gP G a 27) (v49).toNat ((s10 (gP G a 55) (v49 + 4120).toNat)) := ⟨_, rfl⟩
                    rw [← e_s33]
                    have hS_s33 : zSK G s33 := by rw [e_s33]; exact zSK_cq hS_s28 hS_s10 (zr (k := 27) (t2 := 84) hG ha rfl) (zr (k := 55) (t2 := 104) hG ha rfl) (fun _ => rfl) rfl (j2 := (v49 + 4120).toNat) (by exact congrArg (fun z => some (axS z)) (by omega)) (by have := (zlen hG (zr (k := 55) (t2 := 104) hG ha rfl) (n := 6695) rfl rfl); omega) rfl
                    refine j_iinc hx 3 [(6, .int (zI (v49 + 1))), (0, .ref a), (3, .int (zI 8)), (4, .long (zL w36))] dX12_waysOf_234 rfl (by omega) (by decide) rfl ?_
                    refine j_goto hx 206 dX12_waysOf_237 rfl ?_
                    exact j_sub [1, 2, 3, 0] [(0, .ref a), (3, .int (zI 8)), (4, .long (zL w36)), (6, .int (zI (v49 + 1)))] rfl (ih_c206_27 (v49 + 1) s33 (by omega) (by omega) hS_s33 (zFr_u (zFr_t zFr_rf hF_s28 (by decide)) e_s33 (zr (k := 27) (t2 := 84) hG ha rfl) (by decide)) (zEp_s hE3 e_s33 (by omega) (by omega) rfl))
              exact j_sub [1, 2, 3, 0] [(0, .ref a), (3, .int (zI 8)), (4, .long (zL w36)), (6, .int (zI 0))] rfl (c206_27 (2147483648 * 4) 0 s10 (by omega) (by omega) hS_s10 zFr_rf (zEp_0 (by omega)))
            refine j_icmp_ne hx 114 dX12_waysOf_89 rfl (by omega) ⟨by decide, by decide⟩ (fun h78 => ?_) (fun h78 => ?_)
            · skip
              refine j_iconst hx dX12_waysOf_114 ?_
              refine j_istore hx [(6, .int (zI 0)), (4, .long (zL 0)), (0, .ref a), (1, .int (zI x1)), (2, .int (zI x2)), (3, .int (zI 8))] dX12_waysOf_115 (by decide) rfl ?_
              have c117_34 : ∀ (m_c117_34 : Nat) (w79 : Int) (v80 : Int) (s35 : zS), 2147483648 - v80 < m_c117_34 → ((-9223372036854775808) ≤ w79 ∧ w79 ≤ 9223372036854775807) → (0 ≤ v80 ∧ v80 ≤ 3) → (zSK G s35) → (zFr [13, 84, 104] G s8 s35) → (s35 a 0 = s8 a 0) → (s35 a 3 = s8 a 3) → (s35 a 4 = s8 a 4) → (s35 a 5 = s8 a 5) → (s35 a 7 = s8 a 7) → (s35 a 21 = s8 a 21) → (s35 a 22 = s8 a 22) → (s35 a 23 = s8 a 23) → (s35 a 24 = s8 a 24) → (s35 a 38 = s8 a 38) → (s35 a 51 = s8 a 51) → (s35 a 52 = s8 a 52) → (zc (s35 (gP G a 27)) ≤ 60) → (s35 (gP G a 27) 488 ≤ 590013) → (zDp (s35 (gP G a 55))) → JJ X E 8 G s35 0 0 [(0, .ref a), (1, .int (zI x1)), (2, .int (zI x2)), (3, .int (zI 8)), (4, .long (zL w79)), (6, .int (zI v80))] 117 [] := by
                intro m_c117_34
                induction m_c117_34 with
                | zero => intro w79 v80 s35 hm_c117_34 fA36 fA37 hS_s35 hF_s35 fA40 fA41 fA42 fA43 fA44 fA45 fA46 fA47 fA48 fA49 fA50 fA51 fA52 fA53 fA54; exfalso; omega
                | succ m_c117_34 ih_c117_34 => 
                  intro w79 v80 s35 hm_c117_34 fA36 fA37 hS_s35 hF_s35 fA40 fA41 fA42 fA43 fA44 fA45 fA46 fA47 fA48 fA49 fA50 fA51 fA52 fA53 fA54
                  refine j_iload hx 5 dX12_waysOf_117 rfl ?_
                  refine j_aload_n hx 0 dX12_waysOf_119 rfl ?_
                  have f81 := zf hS_s35 ha (k := 24) rfl
                  refine g13_24 hx hG ha kf_RX12_189 rfl dX12_waysOf_120 ?_
                  refine j_icmp_ge hx 203 dX12_waysOf_123 rfl (by omega) (by omega) (fun h82 => ?_) (fun h82 => ?_)
                  · skip
                    have f83 := zf hS_s35 ha (k := 0) rfl
                    have f84 := zf hS_s35 ha (k := 3) rfl
                    have f85 := zf hS_s35 ha (k := 4) rfl
                    have f86 := zf hS_s35 ha (k := 5) rfl
                    have f87 := zf hS_s35 ha (k := 7) rfl
                    have f88 := zf hS_s35 ha (k := 21) rfl
                    have f89 := zf hS_s35 ha (k := 22) rfl
                    have f90 := zf hS_s35 ha (k := 23) rfl
                    have f91 := zf hS_s35 ha (k := 38) rfl
                    have f92 := zf hS_s35 ha (k := 51) rfl
                    have f93 := zf hS_s35 ha (k := 52) rfl
                    exact j_sub [0, 3, 4] [(0, .ref a), (3, .int (zI 8)), (4, .long (zL w79))] rfl (c203_9 w79 s35 (by omega) hS_s35 (zFr_t zFr_rf hF_s35 (by decide)) (by omega) (by omega) (by omega) (by omega) (by omega) (by omega) (by omega) (by omega) (by omega) (by omega) (by omega) (by omega) fA54)
                  · skip
                    refine j_iconst hx dX12_waysOf_126 ?_
                    refine j_istore hx [(7, .int (zI 0)), (0, .ref a), (1, .int (zI x1)), (2, .int (zI x2)), (3, .int (zI 8)), (4, .long (zL w79)), (6, .int (zI v80))] dX12_waysOf_127 (by decide) rfl ?_
                    have c129_55 : ∀ (m_c129_55 : Nat) (v94 : Int) (s56 : zS), 2147483648 - v94 < m_c129_55 → (0 ≤ v94 ∧ v94 ≤ 515) → (zSK G s56) → (zFr [84] G s35 s56) → (zEp (v94).toNat (s56 (gP G a 27)) (s35 (gP G a 55)) 4120) → JJ X E 8 G s56 0 0 [(0, .ref a), (1, .int (zI x1)), (2, .int (zI x2)), (3, .int (zI 8)), (4, .long (zL w79)), (6, .int (zI v80)), (7, .int (zI v94))] 129 [] := by
                      intro m_c129_55
                      induction m_c129_55 with
                      | zero => intro v94 s56 hm_c129_55 fA57 hS_s56 hF_s56 hE2; exfalso; omega
                      | succ m_c129_55 ih_c129_55 => 
                        intro v94 s56 hm_c129_55 fA57 hS_s56 hF_s56 hE2
                        refine j_iload hx 6 dX12_waysOf_129 rfl ?_
                        refine j_sipush hx dX12_waysOf_131 rfl ?_
                        refine j_icmp_ge hx 163 dX12_waysOf_134 rfl (by omega) ⟨by decide, by decide⟩ (fun h95 => ?_) (fun h95 => ?_)
                        · skip
                          have z96 := zEp_zc (L := 8) hE2 (by omega) fA54 (by decide)
                          refine j_aload_n hx 0 dX12_waysOf_163 rfl ?_
                          refine j_iload hx 5 dX12_waysOf_164 rfl ?_
                          have g97 : s56 a 0 = s35 a 0 := (by rw [(zFr_g hF_s56 ha (by decide))])
                          have f98 := zf hS_s35 ha (k := 0) rfl
                          have g99 : s56 a 3 = s35 a 3 := (by rw [(zFr_g hF_s56 ha (by decide))])
                          have f100 := zf hS_s35 ha (k := 3) rfl
                          have g101 : s56 a 4 = s35 a 4 := (by rw [(zFr_g hF_s56 ha (by decide))])
                          have f102 := zf hS_s35 ha (k := 4) rfl
                          have g103 : s56 a 5 = s35 a 5 := (by rw [(zFr_g hF_s56 ha (by decide))])
                          have f104 := zf hS_s35 ha (k := 5) rfl
                          have g105 : s56 a 7 = s35 a 7 := (by rw [(zFr_g hF_s56 ha (by decide))])
                          have f106 := zf hS_s35 ha (k := 7) rfl
                          have g107 : s56 a 21 = s35 a 21 := (by rw [(zFr_g hF_s56 ha (by decide))])
                          have f108 := zf hS_s35 ha (k := 21) rfl
                          have g109 : s56 a 22 = s35 a 22 := (by rw [(zFr_g hF_s56 ha (by decide))])
                          have f110 := zf hS_s35 ha (k := 22) rfl
                          have g111 : s56 a 23 = s35 a 23 := (by rw [(zFr_g hF_s56 ha (by decide))])
                          have f112 := zf hS_s35 ha (k := 23) rfl
                          have g113 : s56 a 24 = s35 a 24 := (by rw [(zFr_g hF_s56 ha (by decide))])
                          have g114 : s56 a 38 = s35 a 38 := (by rw [(zFr_g hF_s56 ha (by decide))])
                          have f115 := zf hS_s35 ha (k := 38) rfl
                          have g116 : s56 a 51 = s35 a 51 := (by rw [(zFr_g hF_s56 ha (by decide))])
                          have f117 := zf hS_s35 ha (k := 51) rfl
                          have g118 : s56 a 52 = s35 a 52 := (by rw [(zFr_g hF_s56 ha (by decide))])
                          have f119 := zf hS_s35 ha (k := 52) rfl
                          refine j_callV hx hG (c_X12_turnFor hst a v80) lk_RX12_453 ha (by decide) rfl rfl rfl rfl [.int (zI v80)] ⟨rfl, hG, hS_s56, ha, (by omega), (by omega), (by omega)⟩ rfl rfl ⟨by decide, by decide⟩ ⟨by decide, by decide⟩ (k2 := 0) (n2 := 0) rfl rfl (Nat.le_of_ble_eq_true rfl) dX12_waysOf_166 (kIM (fun v120 s61 hS_s61 hF_s61 q121 => ?_))
                          refine j_pop hx dX12_waysOf_169 rfl ?_
                          refine j_lload hx 4 dX12_waysOf_170 rfl ?_
                          refine j_aload_n hx 0 dX12_waysOf_172 rfl ?_
                          refine g13_17 hx hG ha kf_RX12_44 dX12_waysOf_173 ?_
                          refine j_iconst hx dX12_waysOf_176 ?_
                          refine j_iload hx 5 dX12_waysOf_177 rfl ?_
                          refine j_imul hx (r := 4 * v80) dX12_waysOf_179 rfl ?_
                          have f122 := zaI (j := (4 * v80).toNat) hS0 (zr (k := 17) (t2 := 80) hG ha rfl) rfl (zlen hG (zr (k := 17) (t2 := 80) hG ha rfl) (n := 12) rfl rfl) (show 0 ≤ 4 * v80 by omega) (by omega) rfl
                          refine j_iald hx hG (zr (k := 17) (t2 := 80) hG ha rfl) (by decide) rfl (zlen hG (zr (k := 17) (t2 := 80) hG ha rfl) (n := 12) rfl rfl) (by omega) (by omega) (j := (4 * v80).toNat) rfl (v := (s0 (gP G a 17) (4 * v80).toNat)) (by rw [(zFr_g hF_s61 (zr (k := 17) (t2 := 80) hG ha rfl) (by decide)), (zFr_g hF_s56 (zr (k := 17) (t2 := 80) hG ha rfl) (by decide)), (zFr_g hF_s35 (zr (k := 17) (t2 := 80) hG ha rfl) (by decide)), (zFr_g hF_s8 (zr (k := 17) (t2 := 80) hG ha rfl) (by decide)), (zFr_g hF_s2 (zr (k := 17) (t2 := 80) hG ha rfl) (by decide))]) dX12_waysOf_180 ?_
                          refine j_i2l hx dX12_waysOf_181 (by omega) ?_
                          refine j_aload_n hx 0 dX12_waysOf_182 rfl ?_
                          refine j_iload_n hx 1 dX12_waysOf_183 rfl ?_
                          refine j_iload_n hx 2 dX12_waysOf_184 rfl ?_
                          refine j_iconst hx dX12_waysOf_185 ?_
                          refine j_isub hx (r := x2 - 1) dX12_waysOf_186 rfl ?_
                          refine j_iload_n hx 3 dX12_waysOf_187 rfl ?_
                          refine j_iconst hx dX12_waysOf_188 ?_
                          refine j_iadd hx (r := 9) dX12_waysOf_189 (by omega) ?_
                          have f123 := zf hS_s61 ha (k := 0) rfl
                          have f124 := zf hS_s61 ha (k := 3) rfl
                          have f125 := zf hS_s61 ha (k := 4) rfl
                          have f126 := zf hS_s61 ha (k := 5) rfl
                          have f127 := zf hS_s61 ha (k := 7) rfl
                          have f128 := zf hS_s61 ha (k := 21) rfl
                          have f129 := zf hS_s61 ha (k := 22) rfl
                          have f130 := zf hS_s61 ha (k := 23) rfl
                          have f131 := zf hS_s61 ha (k := 24) rfl
                          have f132 := zf hS_s61 ha (k := 38) rfl
                          have f133 := zf hS_s61 ha (k := 51) rfl
                          have f134 := zf hS_s61 ha (k := 52) rfl
                          refine j_callV hx hG (c_X12_waysOf_9 hst a x1 (x2 - 1) 9) lk_RX12_487 ha (by decide) rfl rfl rfl rfl [.int (zI x1), .int (zI (x2 - 1)), .int (zI 9)] ⟨rfl, hG, hS_s61, ha, (by omega), (by omega), (by omega), (by omega), (by omega), ((by have q1 : s61 (gP G a 55) = s35 (gP G a 55) := (by rw [hF_s61 (gP G a 55) (by rw [(zr (k := 55) (t2 := 104) hG ha rfl)]; decide), hF_s56 (gP G a 55) (by rw [(zr (k := 55) (t2 := 104) hG ha rfl)]; decide)]); rw [q1]; exact fA54))⟩ rfl rfl ⟨by decide, by decide⟩ ⟨by decide, by decide⟩ (k2 := 0) (n2 := 0) rfl rfl (Nat.le_of_ble_eq_true rfl) dX12_waysOf_190 (kLM (fun v135 s62 hS_s62 hF_s62 q136 => ?_))
                          refine j_lmul hx dX12_waysOf_193 (fun w137 f138 f139 => ?_)
                          refine j_ladd hx dX12_waysOf_194 (fun w140 f141 f142 => ?_)
                          refine j_lstore hx [(4, .long (zL w140)), (0, .ref a), (1, .int (zI x1)), (2, .int (zI x2)), (3, .int (zI 8)), (6, .int (zI v80)), (7, .int (zI v94))] dX12_waysOf_195 (by decide) rfl ?_
                          refine j_iinc hx 5 [(6, .int (zI (v80 + 1))), (4, .long (zL w140)), (0, .ref a), (1, .int (zI x1)), (2, .int (zI x2)), (3, .int (zI 8)), (7, .int (zI v94))] dX12_waysOf_197 rfl (by omega) (by decide) rfl ?_
                          refine j_goto hx 117 dX12_waysOf_200 rfl ?_
                          have f143 := zf hS_s62 ha (k := 0) rfl
                          have f144 := zf hS_s62 ha (k := 3) rfl
                          have f145 := zf hS_s62 ha (k := 4) rfl
                          have f146 := zf hS_s62 ha (k := 5) rfl
                          have f147 := zf hS_s62 ha (k := 7) rfl
                          have f148 := zf hS_s62 ha (k := 21) rfl
                          have f149 := zf hS_s62 ha (k := 22) rfl
                          have f150 := zf hS_s62 ha (k := 23) rfl
                          have f151 := zf hS_s62 ha (k := 24) rfl
                          have f152 := zf hS_s62 ha (k := 38) rfl
                          have f153 := zf hS_s62 ha (k := 51) rfl
                          have f154 := zf hS_s62 ha (k := 52) rfl
                          exact j_sub [2, 3, 4, 5, 1, 0] [(0, .ref a), (1, .int (zI x1)), (2, .int (zI x2)), (3, .int (zI 8)), (4, .long (zL w140)), (6, .int (zI (v80 + 1)))] rfl (ih_c117_34 w140 (v80 + 1) s62 (by omega) (by omega) (by omega) hS_s62 (zFr_t (zFr_t (zFr_t (zFr_t zFr_rf hF_s35 (by decide)) hF_s56 (by decide)) hF_s61 (by decide)) hF_s62 (by decide)) (by omega) (by omega) (by omega) (by omega) (by omega) (by omega) (by omega) (by omega) (by omega) (by omega) (by omega) (by omega) (by omega) (by omega) q136.2.2.2.1)
                        · skip
                          refine j_aload_n hx 0 dX12_waysOf_137 rfl ?_
                          refine g13_27 hx hG ha kf_RX12_56 dX12_waysOf_138 ?_
                          refine j_iload hx 6 dX12_waysOf_141 rfl ?_
                          refine j_aload_n hx 0 dX12_waysOf_143 rfl ?_
                          refine g13_55 hx hG ha kf_RX12_118 dX12_waysOf_144 ?_
                          refine j_sipush hx dX12_waysOf_147 rfl ?_
                          refine j_iload_n hx 3 dX12_waysOf_150 rfl ?_
                          refine j_imul hx (r := 4120) dX12_waysOf_151 (by omega) ?_
                          refine j_iload hx 6 dX12_waysOf_152 rfl ?_
                          refine j_iadd hx (r := v94 + 4120) dX12_waysOf_154 (by omega) ?_
                          have f155 := zah (j := (v94 + 4120).toNat) hS_s35 (zr (k := 55) (t2 := 104) hG ha rfl) (fun k => ⟨_, rfl, (axS_h _).1, (axS_h _).2.1⟩) (zlen hG (zr (k := 55) (t2 := 104) hG ha rfl) (n := 6695) rfl rfl) (show 0 ≤ v94 + 4120 by omega) (by omega) rfl
                          refine j_iald hx hG (zr (k := 55) (t2 := 104) hG ha rfl) (by decide) rfl (zlen hG (zr (k := 55) (t2 := 104) hG ha rfl) (n := 6695) rfl rfl) (by omega) (by omega) (j := (v94 + 4120).toNat) rfl (v := (s35 (gP G a 55) (v94 + 4120).toNat)) (by rw [(zFr_g hF_s56 (zr (k := 55) (t2 := 104) hG ha rfl) (by decide))]) dX12_waysOf_155 ?_
                          refine j_iast hx hG (zr (k := 27) (t2 := 84) hG ha rfl) (by decide) rfl (zlen hG (zr (k := 27) (t2 := 84) hG ha rfl) (n := 515) rfl rfl) (by omega) (by omega) (j := (v94).toNat) rfl dX12_waysOf_156 ?_
                          obtain ⟨s63, e_s63⟩ : ∃ z, z = zU s56 (gP G a 27) (v94).toNat ((s35 (gP G a 55) (v94 + 4120).toNat)) := ⟨_, rfl⟩
                          rw [← e_s63]
                          have hS_s63 : zSK G s63 := by rw [e_s63]; exact zSK_cq hS_s56 hS_s35 (zr (k := 27) (t2 := 84) hG ha rfl) (zr (k := 55) (t2 := 104) hG ha rfl) (fun _ => rfl) rfl (j2 := (v94 + 4120).toNat) (by exact congrArg (fun z => some (axS z)) (by omega)) (by have := (zlen hG (zr (k := 55) (t2 := 104) hG ha rfl) (n := 6695) rfl rfl); omega) rfl
                          refine j_iinc hx 6 [(7, .int (zI (v94 + 1))), (0, .ref a), (1, .int (zI x1)), (2, .int (zI x2)), (3, .int (zI 8)), (4, .long (zL w79)), (6, .int (zI v80))] dX12_waysOf_157 rfl (by omega) (by decide) rfl ?_
                          refine j_goto hx 129 dX12_waysOf_160 rfl ?_
                          exact j_sub [1, 2, 3, 4, 5, 6, 0] [(0, .ref a), (1, .int (zI x1)), (2, .int (zI x2)), (3, .int (zI 8)), (4, .long (zL w79)), (6, .int (zI v80)), (7, .int (zI (v94 + 1)))] rfl (ih_c129_55 (v94 + 1) s63 (by omega) (by omega) hS_s63 (zFr_u (zFr_t zFr_rf hF_s56 (by decide)) e_s63 (zr (k := 27) (t2 := 84) hG ha rfl) (by decide)) (zEp_s hE2 e_s63 (by omega) (by omega) rfl))
                    exact j_sub [1, 2, 3, 4, 5, 6, 0] [(0, .ref a), (1, .int (zI x1)), (2, .int (zI x2)), (3, .int (zI 8)), (4, .long (zL w79)), (6, .int (zI v80)), (7, .int (zI 0))] rfl (c129_55 (2147483648 * 4) 0 s35 (by omega) (by omega) hS_s35 zFr_rf (zEp_0 (by omega)))
              exact j_sub [2, 3, 4, 5, 1, 0] [(0, .ref a), (1, .int (zI x1)), (2, .int (zI x2)), (3, .int (zI 8)), (4, .long (zL 0)), (6, .int (zI 0))] rfl (c117_34 (2147483648 * 4) 0 0 s8 (by omega) (by omega) (by omega) hS_s8 zFr_rf (by omega) (by omega) (by omega) (by omega) (by omega) (by omega) (by omega) (by omega) (by omega) (by omega) (by omega) (by omega) (by omega) (by omega) (by have q1 : s8 (gP G a 55) = s2 (gP G a 55) := (by rw [hF_s8 (gP G a 55) (by rw [(zr (k := 55) (t2 := 104) hG ha rfl)]; decide)]); rw [q1]; exact hP4))
            · skip
              refine j_aload_n hx 1 dX12_waysOf_92 rfl ?_
              refine j_callV hx hG (c_X12_quickness hst a) lk_RX12_484 ha (by decide) rfl rfl rfl rfl [] ⟨rfl, hG, hS_s8, ha⟩ rfl rfl ⟨by decide, by decide⟩ ⟨by decide, by decide⟩ (k2 := 0) (n2 := 0) rfl rfl (Nat.le_of_ble_eq_true rfl) dX12_waysOf_93 (kIP (fun v157 q158 => ?_))
              refine j_i2l hx dX12_waysOf_96 (by omega) ?_
              refine j_aload_n hx 1 dX12_waysOf_97 rfl ?_
              refine j_iload_n hx 2 dX12_waysOf_98 rfl ?_
              refine j_iload_n hx 3 dX12_waysOf_99 rfl ?_
              refine j_iconst hx dX12_waysOf_100 ?_
              refine j_isub hx (r := x2 - 1) dX12_waysOf_101 rfl ?_
              refine j_iload_n hx 4 dX12_waysOf_102 rfl ?_
              refine j_iconst hx dX12_waysOf_103 ?_
              refine j_iadd hx (r := 9) dX12_waysOf_104 (by omega) ?_
              refine j_callV hx hG (c_X12_waysOf_9 hst a x1 (x2 - 1) 9) lk_RX12_487 ha (by decide) rfl rfl rfl rfl [.int (zI x1), .int (zI (x2 - 1)), .int (zI 9)] ⟨rfl, hG, hS_s8, ha, (by omega), (by omega), (by omega), (by omega), (by omega), ((by have q1 : s8 (gP G a 55) = s2 (gP G a 55) := (by rw [hF_s8 (gP G a 55) (by rw [(zr (k := 55) (t2 := 104) hG ha rfl)]; decide)]); rw [q1]; exact hP4))⟩ rfl rfl ⟨by decide, by decide⟩ ⟨by decide, by decide⟩ (k2 := 0) (n2 := 0) rfl rfl (Nat.le_of_ble_eq_true rfl) dX12_waysOf_105 (kLM (fun v159 s64 hS_s64 hF_s64 q160 => ?_))
              refine j_lmul hx dX12_waysOf_108 (fun w161 f162 f163 => ?_)
              refine j_lstore hx [(4, .long (zL w161)), (0, .ref a), (1, .int (zI x1)), (2, .int (zI x2)), (3, .int (zI 8))] dX12_waysOf_109 (by decide) rfl ?_
              refine j_goto hx 203 dX12_waysOf_111 rfl ?_
              have f164 := zf hS_s64 ha (k := 0) rfl
              have f165 := zf hS_s64 ha (k := 3) rfl
              have f166 := zf hS_s64 ha (k := 4) rfl
              have f167 := zf hS_s64 ha (k := 5) rfl
              have f168 := zf hS_s64 ha (k := 7) rfl
              have f169 := zf hS_s64 ha (k := 21) rfl
              have f170 := zf hS_s64 ha (k := 22) rfl
              have f171 := zf hS_s64 ha (k := 23) rfl
              have f172 := zf hS_s64 ha (k := 24) rfl
              have f173 := zf hS_s64 ha (k := 38) rfl
              have f174 := zf hS_s64 ha (k := 51) rfl
              have f175 := zf hS_s64 ha (k := 52) rfl
              exact j_sub [1, 4, 0] [(0, .ref a), (3, .int (zI 8)), (4, .long (zL w161))] rfl (c203_9 w161 s64 (by omega) hS_s64 (zFr_t zFr_rf hF_s64 (by decide)) (by omega) (by omega) (by omega) (by omega) (by omega) (by omega) (by omega) (by omega) (by omega) (by omega) (by omega) (by omega) q160.2.2.2.1)
          · skip
            refine j_aload_n hx 1 dX12_waysOf_66 rfl ?_
            refine j_callV hx hG (c_X12_quickness hst a) lk_RX12_484 ha (by decide) rfl rfl rfl rfl [] ⟨rfl, hG, hS_s8, ha⟩ rfl rfl ⟨by decide, by decide⟩ ⟨by decide, by decide⟩ (k2 := 0) (n2 := 0) rfl rfl (Nat.le_of_ble_eq_true rfl) dX12_waysOf_67 (kIP (fun v176 q177 => ?_))
            refine j_i2l hx dX12_waysOf_70 (by omega) ?_
            refine j_aload_n hx 1 dX12_waysOf_71 rfl ?_
            refine j_iload_n hx 2 dX12_waysOf_72 rfl ?_
            refine j_iload_n hx 3 dX12_waysOf_73 rfl ?_
            refine j_iconst hx dX12_waysOf_74 ?_
            refine j_isub hx (r := x2 - 1) dX12_waysOf_75 rfl ?_
            refine j_iload_n hx 4 dX12_waysOf_76 rfl ?_
            refine j_iconst hx dX12_waysOf_77 ?_
            refine j_iadd hx (r := 9) dX12_waysOf_78 (by omega) ?_
            have f178 := zf hS_s8 ha (k := 0) rfl
            have f179 := zf hS_s8 ha (k := 3) rfl
            have f180 := zf hS_s8 ha (k := 4) rfl
            have f181 := zf hS_s8 ha (k := 5) rfl
            have f182 := zf hS_s8 ha (k := 7) rfl
            have f183 := zf hS_s8 ha (k := 21) rfl
            have f184 := zf hS_s8 ha (k := 22) rfl
            have f185 := zf hS_s8 ha (k := 23) rfl
            have f186 := zf hS_s8 ha (k := 24) rfl
            have f187 := zf hS_s8 ha (k := 38) rfl
            have f188 := zf hS_s8 ha (k := 51) rfl
            have f189 := zf hS_s8 ha (k := 52) rfl
            refine j_callV hx hG (c_X12_waysOf_9 hst a x1 (x2 - 1) 9) lk_RX12_487 ha (by decide) rfl rfl rfl rfl [.int (zI x1), .int (zI (x2 - 1)), .int (zI 9)] ⟨rfl, hG, hS_s8, ha, (by omega), (by omega), (by omega), (by omega), (by omega), ((by have q1 : s8 (gP G a 55) = s2 (gP G a 55) := (by rw [hF_s8 (gP G a 55) (by rw [(zr (k := 55) (t2 := 104) hG ha rfl)]; decide)]); rw [q1]; exact hP4))⟩ rfl rfl ⟨by decide, by decide⟩ ⟨by decide, by decide⟩ (k2 := 0) (n2 := 0) rfl rfl (Nat.le_of_ble_eq_true rfl) dX12_waysOf_79 (kLM (fun v190 s65 hS_s65 hF_s65 q191 => ?_))
            refine j_lmul hx dX12_waysOf_82 (fun w192 f193 f194 => ?_)
            have f195 := zf hS_s65 ha (k := 0) rfl
            have f196 := zf hS_s65 ha (k := 3) rfl
            have f197 := zf hS_s65 ha (k := 4) rfl
            have f198 := zf hS_s65 ha (k := 5) rfl
            have f199 := zf hS_s65 ha (k := 7) rfl
            have f200 := zf hS_s65 ha (k := 21) rfl
            have f201 := zf hS_s65 ha (k := 22) rfl
            have f202 := zf hS_s65 ha (k := 23) rfl
            have f203 := zf hS_s65 ha (k := 24) rfl
            have f204 := zf hS_s65 ha (k := 38) rfl
            have f205 := zf hS_s65 ha (k := 51) rfl
            have f206 := zf hS_s65 ha (k := 52) rfl
            exact j_lret hx hq rfl (by decide) (by decide) dX12_waysOf_83 ⟨w192, rfl, rfl, hS_s65, (zFr_t (zFr_t (zFr_t zFr_rf hF_s2 (by decide)) hF_s8 (by decide)) hF_s65 (by decide)), ⟨(by omega), by omega, by omega, q191.2.2.2.1, by omega, by omega, by omega, by omega, by omega, by omega, by omega, by omega, by omega, by omega, by omega, by omega⟩⟩
        · skip
          refine j_aload_n hx 0 dX12_waysOf_29 rfl ?_
          refine g13_55 hx hG ha kf_RX12_118 dX12_waysOf_30 ?_
          refine j_sipush hx dX12_waysOf_33 rfl ?_
          refine j_iload_n hx 3 dX12_waysOf_36 rfl ?_
          refine j_imul hx (r := 4120) dX12_waysOf_37 (by omega) ?_
          refine j_iload hx 4 dX12_waysOf_38 rfl ?_
          refine j_iadd hx (r := v2 + 4120) dX12_waysOf_40 (by omega) ?_
          refine j_aload_n hx 0 dX12_waysOf_41 rfl ?_
          refine g13_27 hx hG ha kf_RX12_56 dX12_waysOf_42 ?_
          refine j_iload hx 4 dX12_waysOf_45 rfl ?_
          have f207 := zah (j := (v2).toNat) hS0 (zr (k := 27) (t2 := 84) hG ha rfl) (fun k => ⟨_, rfl, (axS_h _).1, (axS_h _).2.1⟩) (zlen hG (zr (k := 27) (t2 := 84) hG ha rfl) (n := 515) rfl rfl) (show 0 ≤ v2 by omega) (by omega) rfl
          refine j_iald hx hG (zr (k := 27) (t2 := 84) hG ha rfl) (by decide) rfl (zlen hG (zr (k := 27) (t2 := 84) hG ha rfl) (n := 515) rfl rfl) (by omega) (by omega) (j := (v2).toNat) rfl (v := (s0 (gP G a 27) (v2).toNat)) (by rw [(zFr_g hF_s2 (zr (k := 27) (t2 := 84) hG ha rfl) (by decide))]) dX12_waysOf_47 ?_
          refine j_iast hx hG (zr (k := 55) (t2 := 104) hG ha rfl) (by decide) rfl (zlen hG (zr (k := 55) (t2 := 104) hG ha rfl) (n := 6695) rfl rfl) (by omega) (by omega) (j := (v2 + 4120).toNat) rfl dX12_waysOf_48 ?_
          obtain ⟨s66, e_s66⟩ : ∃ z, z = zU s2 (gP G a 55) (v2 + 4120).toNat ((s0 (gP G a 27) (v2).toNat)) := ⟨_, rfl⟩
          rw [← e_s66]
          have hS_s66 : zSK G s66 := by rw [e_s66]; exact zSK_cq hS_s2 hS0 (zr (k := 55) (t2 := 104) hG ha rfl) (zr (k := 27) (t2 := 84) hG ha rfl) (fun _ => rfl) rfl (j2 := (v2).toNat) (by exact congrArg (fun z => some (axS z)) (by omega)) (by have := (zlen hG (zr (k := 27) (t2 := 84) hG ha rfl) (n := 515) rfl rfl); omega) rfl
          refine j_iinc hx 4 [(4, .int (zI (v2 + 1))), (0, .ref a), (1, .int (zI x1)), (2, .int (zI x2)), (3, .int (zI 8))] dX12_waysOf_49 rfl (by omega) (by decide) rfl ?_
          refine j_goto hx 21 dX12_waysOf_52 rfl ?_
          exact j_sub [1, 2, 3, 4, 0] [(0, .ref a), (1, .int (zI x1)), (2, .int (zI x2)), (3, .int (zI 8)), (4, .int (zI (v2 + 1)))] rfl (ih_c21_1 (v2 + 1) s66 (by omega) (by omega) hS_s66 (zFr_u (zFr_t zFr_rf hF_s2 (by decide)) e_s66 (zr (k := 55) (t2 := 104) hG ha rfl) (by decide)) (zDx_s hD1 e_s66 (by omega)) (zEo_s hE1 e_s66 (by omega) (by omega) rfl))
    exact j_sub [1, 2, 3, 4, 0] [(0, .ref a), (1, .int (zI x1)), (2, .int (zI x2)), (3, .int (zI 8)), (4, .int (zI 0))] rfl (c21_1 (2147483648 * 4) 0 s0 (by omega) (by omega) hS0 zFr_rf (zDx_of e2) (zEo_0 (by omega)))
  · skip
    refine j_aload_n hx 0 dX12_waysOf_4 rfl ?_
    refine j_iload_n hx 1 dX12_waysOf_5 rfl ?_
    refine j_callV hx hG (c_X12_hasMost hst a x1) lk_RX12_481 ha (by decide) rfl rfl rfl rfl [.int (zI x1)] ⟨rfl, hG, hS0, ha, (by omega)⟩ rfl rfl ⟨by decide, by decide⟩ ⟨by decide, by decide⟩ (k2 := 0) (n2 := 0) rfl rfl (Nat.le_of_ble_eq_true rfl) dX12_waysOf_6 (kIP (fun v208 q209 => ?_))
    refine j_if_eq hx 16 dX12_waysOf_9 rfl (by omega) (fun h210 => ?_) (fun h210 => ?_)
    · skip
      refine j_lconst hx dX12_waysOf_16 ?_
      show JJ X E 8 G s0 0 0 [(0, .ref a), (1, .int (zI x1)), (2, .int (zI x2)), (3, .int (zI 8))] 17 [.long (zL 0)]
      have f211 := zf hS0 ha (k := 0) rfl
      have f212 := zf hS0 ha (k := 3) rfl
      have f213 := zf hS0 ha (k := 4) rfl
      have f214 := zf hS0 ha (k := 5) rfl
      have f215 := zf hS0 ha (k := 7) rfl
      have f216 := zf hS0 ha (k := 21) rfl
      have f217 := zf hS0 ha (k := 22) rfl
      have f218 := zf hS0 ha (k := 23) rfl
      have f219 := zf hS0 ha (k := 24) rfl
      have f220 := zf hS0 ha (k := 38) rfl
      have f221 := zf hS0 ha (k := 51) rfl
      have f222 := zf hS0 ha (k := 52) rfl
      exact j_lret hx hq rfl (by decide) (by decide) dX12_waysOf_17 ⟨0, rfl, rfl, hS0, zFr_rf, ⟨(by omega), by omega, by omega, e2, by omega, by omega, by omega, by omega, by omega, by omega, by omega, by omega, by omega, by omega, by omega, by omega⟩⟩
    · skip
      refine j_lconst hx dX12_waysOf_12 ?_
      show JJ X E 8 G s0 0 0 [(0, .ref a), (1, .int (zI x1)), (2, .int (zI x2)), (3, .int (zI 8))] 13 [.long (zL 1)]
      refine j_goto hx 17 dX12_waysOf_13 rfl ?_
      have f223 := zf hS0 ha (k := 0) rfl
      have f224 := zf hS0 ha (k := 3) rfl
      have f225 := zf hS0 ha (k := 4) rfl
      have f226 := zf hS0 ha (k := 5) rfl
      have f227 := zf hS0 ha (k := 7) rfl
      have f228 := zf hS0 ha (k := 21) rfl
      have f229 := zf hS0 ha (k := 22) rfl
      have f230 := zf hS0 ha (k := 23) rfl
      have f231 := zf hS0 ha (k := 24) rfl
      have f232 := zf hS0 ha (k := 38) rfl
      have f233 := zf hS0 ha (k := 51) rfl
      have f234 := zf hS0 ha (k := 52) rfl
      exact j_lret hx hq rfl (by decide) (by decide) dX12_waysOf_17 ⟨1, rfl, rfl, hS0, zFr_rf, ⟨(by omega), by omega, by omega, e2, by omega, by omega, by omega, by omega, by omega, by omega, by omega, by omega, by omega, by omega, by omega, by omega⟩⟩

set_option maxHeartbeats 1200000 in
set_option maxRecDepth 20000 in
theorem c_X12_waysOf_7 {E : zE} {l : Launch} (hst : l.stackTraces = false) (a : Nat) (x1 : Int) (x2 : Int) (x3 : Int) : Con E l yX12_waysOf cX12_waysOf 8 (some .long) { frames := 9, cells := 0, slots := 0, locals := 226 } (fun G s vs => vs = [.ref a, .int (zI x1), .int (zI x2), .int (zI x3)] ∧ zGK G ∧ zSK G s ∧ (gT G a = 13) ∧ (0 ≤ x1 ∧ x1 ≤ 2) ∧ (0 ≤ x2 ∧ x2 ≤ 5) ∧ (7 ≤ x3 ∧ x3 ≤ 7) ∧ (zc (s (gP G a 27)) ≤ 60) ∧ (s (gP G a 27) 488 ≤ 590007) ∧ (zDp (s (gP G a 55)))) (fun G s _ => pL (fun r G2 s2 => G2 = G ∧ zSK G s2 ∧ zFr [13, 84, 104] G s s2 ∧ ((-9223372036854775808) ≤ r ∧ r ≤ 9223372036854775807) ∧ zc (s2 (gP G a 27)) ≤ 60 ∧ s2 (gP G a 27) 488 ≤ 590013 ∧ zDp (s2 (gP G a 55)) ∧ s2 a 0 = s a 0 ∧ s2 a 3 = s a 3 ∧ s2 a 4 = s a 4 ∧ s2 a 5 = s a 5 ∧ s2 a 7 = s a 7 ∧ s2 a 21 = s a 21 ∧ s2 a 22 = s a 22 ∧ s2 a 23 = s a 23 ∧ s2 a 24 = s a 24 ∧ s2 a 38 = s a 38 ∧ s2 a 51 = s a 51 ∧ s2 a 52 = s a 52)) := by
  refine Con.mk hst (by decide) (fun G s vs h => by rw [h.1]; exact Nat.le_of_ble_eq_true rfl) ?_
  rintro X G s0 vs ⟨rfl, hG, hS0, ha, hx1, hx2, hx3, e0, e1, e2⟩ rfl hx hq
  obtain rfl : x3 = 7 := by omega
  show JJ X E 8 G s0 0 0 [(0, .ref a), (1, .int (zI x1)), (2, .int (zI x2)), (3, .int (zI 7))] 0 []
  refine j_iload_n hx 2 dX12_waysOf_0 rfl ?_
  refine j_if_ne hx 18 dX12_waysOf_1 rfl (by omega) (fun h1 => ?_) (fun h1 => ?_)
  · skip
    refine j_iconst hx dX12_waysOf_18 ?_
    refine j_istore hx [(4, .int (zI 0)), (0, .ref a), (1, .int (zI x1)), (2, .int (zI x2)), (3, .int (zI 7))] dX12_waysOf_19 (by decide) rfl ?_
    have c21_1 : ∀ (m_c21_1 : Nat) (v2 : Int) (s2 : zS), 2147483648 - v2 < m_c21_1 → (0 ≤ v2 ∧ v2 ≤ 515) → (zSK G s2) → (zFr [104] G s0 s2) → (zDx 7 (s2 (gP G a 55))) → (zEo (v2).toNat (s2 (gP G a 55)) (s0 (gP G a 27)) 3605) → JJ X E 8 G s2 0 0 [(0, .ref a), (1, .int (zI x1)), (2, .int (zI x2)), (3, .int (zI 7)), (4, .int (zI v2))] 21 [] := by
      intro m_c21_1
      induction m_c21_1 with
      | zero => intro v2 s2 hm_c21_1 fA3 hS_s2 hF_s2 hD1 hE1; exfalso; omega
      | succ m_c21_1 ih_c21_1 => 
        intro v2 s2 hm_c21_1 fA3 hS_s2 hF_s2 hD1 hE1
        refine j_iload hx 4 dX12_waysOf_21 rfl ?_
        refine j_sipush hx dX12_waysOf_23 rfl ?_
        refine j_icmp_ge hx 55 dX12_waysOf_26 rfl (by omega) ⟨by decide, by decide⟩ (fun h3 => ?_) (fun h3 => ?_)
        · skip
          have hP4 : zDp (s2 (gP G a 55)) := zDp_in (L := 7) hD1 hE1 (by omega) (by omega) (by omega)
          refine j_lconst hx dX12_waysOf_55 ?_
          show JJ X E 8 G s2 0 0 [(0, .ref a), (1, .int (zI x1)), (2, .int (zI x2)), (3, .int (zI 7)), (4, .int (zI v2))] 56 [.long (zL 0)]
          refine j_lstore hx [(4, .long (zL 0)), (0, .ref a), (1, .int (zI x1)), (2, .int (zI x2)), (3, .int (zI 7))] dX12_waysOf_56 (by decide) rfl ?_
          refine j_aload_n hx 1 dX12_waysOf_58 rfl ?_
          refine j_iconst hx dX12_waysOf_59 ?_
          have g5 : zc (s2 (gP G a 27)) = zc (s0 (gP G a 27)) := by rw [hF_s2 (gP G a 27) (by rw [(zr (k := 27) (t2 := 84) hG ha rfl)]; decide)]
          have g6 : s2 (gP G a 27) 488 = s0 (gP G a 27) 488 := (by rw [(zFr_g hF_s2 (zr (k := 27) (t2 := 84) hG ha rfl) (by decide))])
          have g7 : s2 a 0 = s0 a 0 := (by rw [(zFr_g hF_s2 ha (by decide))])
          have f8 := zf hS0 ha (k := 0) rfl
          have g9 : s2 a 3 = s0 a 3 := (by rw [(zFr_g hF_s2 ha (by decide))])
          have f10 := zf hS0 ha (k := 3) rfl
          have g11 : s2 a 4 = s0 a 4 := (by rw [(zFr_g hF_s2 ha (by decide))])
          have f12 := zf hS0 ha (k := 4) rfl
          have g13 : s2 a 5 = s0 a 5 := (by rw [(zFr_g hF_s2 ha (by decide))])
          have f14 := zf hS0 ha (k := 5) rfl
          have g15 : s2 a 7 = s0 a 7 := (by rw [(zFr_g hF_s2 ha (by decide))])
          have f16 := zf hS0 ha (k := 7) rfl
          have g17 : s2 a 21 = s0 a 21 := (by rw [(zFr_g hF_s2 ha (by decide))])
          have f18 := zf hS0 ha (k := 21) rfl
          have g19 : s2 a 22 = s0 a 22 := (by rw [(zFr_g hF_s2 ha (by decide))])
          have f20 := zf hS0 ha (k := 22) rfl
          have g21 : s2 a 23 = s0 a 23 := (by rw [(zFr_g hF_s2 ha (by decide))])
          have f22 := zf hS0 ha (k := 23) rfl
          have g23 : s2 a 24 = s0 a 24 := (by rw [(zFr_g hF_s2 ha (by decide))])
          have f24 := zf hS0 ha (k := 24) rfl
          have g25 : s2 a 38 = s0 a 38 := (by rw [(zFr_g hF_s2 ha (by decide))])
          have f26 := zf hS0 ha (k := 38) rfl
          have g27 : s2 a 51 = s0 a 51 := (by rw [(zFr_g hF_s2 ha (by decide))])
          have f28 := zf hS0 ha (k := 51) rfl
          have g29 : s2 a 52 = s0 a 52 := (by rw [(zFr_g hF_s2 ha (by decide))])
          have f30 := zf hS0 ha (k := 52) rfl
          refine j_callV hx hG (c_X12_turnFor hst a (-1)) lk_RX12_453 ha (by decide) rfl rfl rfl rfl [.int (zI (-1))] ⟨rfl, hG, hS_s2, ha, (by omega), (by omega), (by omega)⟩ rfl rfl ⟨by decide, by decide⟩ ⟨by decide, by decide⟩ (k2 := 0) (n2 := 0) rfl rfl (Nat.le_of_ble_eq_true rfl) dX12_waysOf_60 (kIM (fun v31 s8 hS_s8 hF_s8 q32 => ?_))
          refine j_if_ne hx 84 dX12_waysOf_63 rfl (by omega) (fun h33 => ?_) (fun h33 => ?_)
          · skip
            refine j_aload_n hx 1 dX12_waysOf_84 rfl ?_
            refine j_callV hx hG (c_X12_alikes hst a) lk_RX12_343 ha (by decide) rfl rfl rfl rfl [] ⟨rfl, hG, hS_s8, ha⟩ rfl rfl ⟨by decide, by decide⟩ ⟨by decide, by decide⟩ (k2 := 0) (n2 := 0) rfl rfl (Nat.le_of_ble_eq_true rfl) dX12_waysOf_85 (kIP (fun v34 q35 => ?_))
            refine j_iconst hx dX12_waysOf_88 ?_
            have f37 := zf hS_s8 ha (k := 0) rfl
            have f38 := zf hS_s8 ha (k := 3) rfl
            have f39 := zf hS_s8 ha (k := 4) rfl
            have f40 := zf hS_s8 ha (k := 5) rfl
            have f41 := zf hS_s8 ha (k := 7) rfl
            have f42 := zf hS_s8 ha (k := 21) rfl
            have f43 := zf hS_s8 ha (k := 22) rfl
            have f44 := zf hS_s8 ha (k := 23) rfl
            have f45 := zf hS_s8 ha (k := 24) rfl
            have f46 := zf hS_s8 ha (k := 38) rfl
            have f47 := zf hS_s8 ha (k := 51) rfl
            have f48 := zf hS_s8 ha (k := 52) rfl
            have c203_9 : ∀ (w36 : Int) (s10 : zS), ((-9223372036854775808) ≤ w36 ∧ w36 ≤ 9223372036854775807) → (zSK G s10) → (zFr [13, 84, 104] G s8 s10) → (s10 a 0 = s8 a 0) → (s10 a 3 = s8 a 3) → (s10 a 4 = s8 a 4) → (s10 a 5 = s8 a 5) → (s10 a 7 = s8 a 7) → (s10 a 21 = s8 a 21) → (s10 a 22 = s8 a 22) → (s10 a 23 = s8 a 23) → (s10 a 24 = s8 a 24) → (s10 a 38 = s8 a 38) → (s10 a 51 = s8 a 51) → (s10 a 52 = s8 a 52) → (zDp (s10 (gP G a 55))) → JJ X E 8 G s10 0 0 [(0, .ref a), (3, .int (zI 7)), (4, .long (zL w36))] 203 [] := by
              intro w36 s10 fA11 hS_s10 hF_s10 fA14 fA15 fA16 fA17 fA18 fA19 fA20 fA21 fA22 fA23 fA24 fA25 fA26
              refine j_iconst hx dX12_waysOf_203 ?_
              refine j_istore hx [(6, .int (zI 0)), (0, .ref a), (3, .int (zI 7)), (4, .long (zL w36))] dX12_waysOf_204 (by decide) rfl ?_
              have c206_27 : ∀ (m_c206_27 : Nat) (v49 : Int) (s28 : zS), 2147483648 - v49 < m_c206_27 → (0 ≤ v49 ∧ v49 ≤ 515) → (zSK G s28) → (zFr [84] G s10 s28) → (zEp (v49).toNat (s28 (gP G a 27)) (s10 (gP G a 55)) 3605) → JJ X E 8 G s28 0 0 [(0, .ref a), (3, .int (zI 7)), (4, .long (zL w36)), (6, .int (zI v49))] 206 [] := by
                intro m_c206_27
                induction m_c206_27 with
                | zero => intro v49 s28 hm_c206_27 fA29 hS_s28 hF_s28 hE3; exfalso; omega
                | succ m_c206_27 ih_c206_27 => 
                  intro v49 s28 hm_c206_27 fA29 hS_s28 hF_s28 hE3
                  refine j_iload hx 3 dX12_waysOf_206 rfl ?_
                  refine j_sipush hx dX12_waysOf_208 rfl ?_
                  refine j_icmp_ge hx 240 dX12_waysOf_211 rfl (by omega) ⟨by decide, by decide⟩ (fun h50 => ?_) (fun h50 => ?_)
                  · skip
                    have z51 := zEp_zc (L := 7) hE3 (by omega) fA26 (by decide)
                    refine j_lload hx 2 dX12_waysOf_240 rfl ?_
                    have g52 : s28 a 0 = s10 a 0 := (by rw [(zFr_g hF_s28 ha (by decide))])
                    have f53 := zf hS_s10 ha (k := 0) rfl
                    have g54 : s28 a 3 = s10 a 3 := (by rw [(zFr_g hF_s28 ha (by decide))])
                    have f55 := zf hS_s10 ha (k := 3) rfl
                    have g56 : s28 a 4 = s10 a 4 := (by rw [(zFr_g hF_s28 ha (by decide))])
                    have f57 := zf hS_s10 ha (k := 4) rfl
                    have g58 : s28 a 5 = s10 a 5 := (by rw [(zFr_g hF_s28 ha (by decide))])
                    have f59 := zf hS_s10 ha (k := 5) rfl
                    have g60 : s28 a 7 = s10 a 7 := (by rw [(zFr_g hF_s28 ha (by decide))])
                    have f61 := zf hS_s10 ha (k := 7) rfl
                    have g62 : s28 a 21 = s10 a 21 := (by rw [(zFr_g hF_s28 ha (by decide))])
                    have f63 := zf hS_s10 ha (k := 21) rfl
                    have g64 : s28 a 22 = s10 a 22 := (by rw [(zFr_g hF_s28 ha (by decide))])
                    have f65 := zf hS_s10 ha (k := 22) rfl
                    have g66 : s28 a 23 = s10 a 23 := (by rw [(zFr_g hF_s28 ha (by decide))])
                    have f67 := zf hS_s10 ha (k := 23) rfl
                    have g68 : s28 a 24 = s10 a 24 := (by rw [(zFr_g hF_s28 ha (by decide))])
                    have f69 := zf hS_s10 ha (k := 24) rfl
                    have g70 : s28 a 38 = s10 a 38 := (by rw [(zFr_g hF_s28 ha (by decide))])
                    have f71 := zf hS_s10 ha (k := 38) rfl
                    have g72 : s28 a 51 = s10 a 51 := (by rw [(zFr_g hF_s28 ha (by decide))])
                    have f73 := zf hS_s10 ha (k := 51) rfl
                    have g74 : s28 a 52 = s10 a 52 := (by rw [(zFr_g hF_s28 ha (by decide))])
                    have f75 := zf hS_s10 ha (k := 52) rfl
                    exact j_lret hx hq rfl (by decide) (by decide) dX12_waysOf_242 ⟨w36, rfl, rfl, hS_s28, (zFr_t (zFr_t (zFr_t (zFr_t zFr_rf hF_s2 (by decide)) hF_s8 (by decide)) hF_s10 (by decide)) hF_s28 (by decide)), ⟨(by omega), by omega, by omega, (by have q1 : s28 (gP G a 55) = s10 (gP G a 55) := (by rw [hF_s28 (gP G a 55) (by rw [(zr (k := 55) (t2 := 104) hG ha rfl)]; decide)]); rw [q1]; exact fA26), by omega, by omega, by omega, by omega, by omega, by omega, by omega, by omega, by omega, by omega, by omega, by omega⟩⟩
                  · skip
                    refine j_aload_n hx 0 dX12_waysOf_214 rfl ?_
                    refine g13_27 hx hG ha kf_RX12_56 dX12_waysOf_215 ?_
                    refine j_iload hx 3 dX12_waysOf_218 rfl ?_
                    refine j_aload_n hx 0 dX12_waysOf_220 rfl ?_
                    refine g13_55 hx hG ha kf_RX12_118 dX12_waysOf_221 ?_
                    refine j_sipush hx dX12_waysOf_224 rfl ?_
                    refine j_iload_n hx 1 dX12_waysOf_227 rfl ?_
                    refine j_imul hx (r := 3605) dX12_waysOf_228 (by omega) ?_
                    refine j_iload hx 3 dX12_waysOf_229 rfl ?_
                    refine j_iadd hx (r := v49 + 3605) dX12_waysOf_231 (by omega) ?_
                    have f76 := zah (j := (v49 + 3605).toNat) hS_s10 (zr (k := 55) (t2 := 104) hG ha rfl) (fun k => ⟨_, rfl, (axS_h _).1, (axS_h _).2.1⟩) (zlen hG (zr (k := 55) (t2 := 104) hG ha rfl) (n := 6695) rfl rfl) (show 0 ≤ v49 + 3605 by omega) (by omega) rfl
                    refine j_iald hx hG (zr (k := 55) (t2 := 104) hG ha rfl) (by decide) rfl (zlen hG (zr (k := 55) (t2 := 104) hG ha rfl) (n := 6695) rfl rfl) (by omega) (by omega) (j := (v49 + 3605).toNat) rfl (v := (s10 (gP G a 55) (v49 + 3605).toNat)) (by rw [(zFr_g hF_s28 (zr (k := 55) (t2 := 104) hG ha rfl) (by decide))]) dX12_waysOf_232 ?_
                    refine j_iast hx hG (zr (k := 27) (t2 := 84) hG ha rfl) (by decide) rfl (zlen hG (zr (k := 27) (t2 := 84) hG ha rfl) (n := 515) rfl rfl) (by omega) (by omega) (j := (v49).toNat) rfl dX12_waysOf_233 ?_
                    obtain ⟨s33, e_s33⟩ : ∃ z, z = zU s28 (gP G a 27) (v49).toNat ((s10 (gP G a 55) (v49 + 3605).toNat)) := ⟨_, rfl⟩
                    rw [← e_s33]
                    have hS_s33 : zSK G s33 := by rw [e_s33]; exact zSK_cq hS_s28 hS_s10 (zr (k := 27) (t2 := 84) hG ha rfl) (zr (k := 55) (t2 := 104) hG ha rfl) (fun _ => rfl) rfl (j2 := (v49 + 3605).toNat) (by exact congrArg (fun z => some (axS z)) (by omega)) (by have := (zlen hG (zr (k := 55) (t2 := 104) hG ha rfl) (n := 6695) rfl rfl); omega) rfl
                    refine j_iinc hx 3 [(6, .int (zI (v49 + 1))), (0, .ref a), (3, .int (zI 7)), (4, .long (zL w36))] dX12_waysOf_234 rfl (by omega) (by decide) rfl ?_
                    refine j_goto hx 206 dX12_waysOf_237 rfl ?_
                    exact j_sub [1, 2, 3, 0] [(0, .ref a), (3, .int (zI 7)), (4, .long (zL w36)), (6, .int (zI (v49 + 1)))] rfl (ih_c206_27 (v49 + 1) s33 (by omega) (by omega) hS_s33 (zFr_u (zFr_t zFr_rf hF_s28 (by decide)) e_s33 (zr (k := 27) (t2 := 84) hG ha rfl) (by decide)) (zEp_s hE3 e_s33 (by omega) (by omega) rfl))
              exact j_sub [1, 2, 3, 0] [(0, .ref a), (3, .int (zI 7)), (4, .long (zL w36)), (6, .int (zI 0))] rfl (c206_27 (2147483648 * 4) 0 s10 (by omega) (by omega) hS_s10 zFr_rf (zEp_0 (by omega)))
            refine j_icmp_ne hx 114 dX12_waysOf_89 rfl (by omega) ⟨by decide, by decide⟩ (fun h78 => ?_) (fun h78 => ?_)
            · skip
              refine j_iconst hx dX12_waysOf_114 ?_
              refine j_istore hx [(6, .int (zI 0)), (4, .long (zL 0)), (0, .ref a), (1, .int (zI x1)), (2, .int (zI x2)), (3, .int (zI 7))] dX12_waysOf_115 (by decide) rfl ?_
              have c117_34 : ∀ (m_c117_34 : Nat) (w79 : Int) (v80 : Int) (s35 : zS), 2147483648 - v80 < m_c117_34 → ((-9223372036854775808) ≤ w79 ∧ w79 ≤ 9223372036854775807) → (0 ≤ v80 ∧ v80 ≤ 3) → (zSK G s35) → (zFr [13, 84, 104] G s8 s35) → (s35 a 0 = s8 a 0) → (s35 a 3 = s8 a 3) → (s35 a 4 = s8 a 4) → (s35 a 5 = s8 a 5) → (s35 a 7 = s8 a 7) → (s35 a 21 = s8 a 21) → (s35 a 22 = s8 a 22) → (s35 a 23 = s8 a 23) → (s35 a 24 = s8 a 24) → (s35 a 38 = s8 a 38) → (s35 a 51 = s8 a 51) → (s35 a 52 = s8 a 52) → (zc (s35 (gP G a 27)) ≤ 60) → (s35 (gP G a 27) 488 ≤ 590013) → (zDp (s35 (gP G a 55))) → JJ X E 8 G s35 0 0 [(0, .ref a), (1, .int (zI x1)), (2, .int (zI x2)), (3, .int (zI 7)), (4, .long (zL w79)), (6, .int (zI v80))] 117 [] := by
                intro m_c117_34
                induction m_c117_34 with
                | zero => intro w79 v80 s35 hm_c117_34 fA36 fA37 hS_s35 hF_s35 fA40 fA41 fA42 fA43 fA44 fA45 fA46 fA47 fA48 fA49 fA50 fA51 fA52 fA53 fA54; exfalso; omega
                | succ m_c117_34 ih_c117_34 => 
                  intro w79 v80 s35 hm_c117_34 fA36 fA37 hS_s35 hF_s35 fA40 fA41 fA42 fA43 fA44 fA45 fA46 fA47 fA48 fA49 fA50 fA51 fA52 fA53 fA54
                  refine j_iload hx 5 dX12_waysOf_117 rfl ?_
                  refine j_aload_n hx 0 dX12_waysOf_119 rfl ?_
                  have f81 := zf hS_s35 ha (k := 24) rfl
                  refine g13_24 hx hG ha kf_RX12_189 rfl dX12_waysOf_120 ?_
                  refine j_icmp_ge hx 203 dX12_waysOf_123 rfl (by omega) (by omega) (fun h82 => ?_) (fun h82 => ?_)
                  · skip
                    have f83 := zf hS_s35 ha (k := 0) rfl
                    have f84 := zf hS_s35 ha (k := 3) rfl
                    have f85 := zf hS_s35 ha (k := 4) rfl
                    have f86 := zf hS_s35 ha (k := 5) rfl
                    have f87 := zf hS_s35 ha (k := 7) rfl
                    have f88 := zf hS_s35 ha (k := 21) rfl
                    have f89 := zf hS_s35 ha (k := 22) rfl
                    have f90 := zf hS_s35 ha (k := 23) rfl
                    have f91 := zf hS_s35 ha (k := 38) rfl
                    have f92 := zf hS_s35 ha (k := 51) rfl
                    have f93 := zf hS_s35 ha (k := 52) rfl
                    exact j_sub [0, 3, 4] [(0, .ref a), (3, .int (zI 7)), (4, .long (zL w79))] rfl (c203_9 w79 s35 (by omega) hS_s35 (zFr_t zFr_rf hF_s35 (by decide)) (by omega) (by omega) (by omega) (by omega) (by omega) (by omega) (by omega) (by omega) (by omega) (by omega) (by omega) (by omega) fA54)
                  · skip
                    refine j_iconst hx dX12_waysOf_126 ?_
                    refine j_istore hx [(7, .int (zI 0)), (0, .ref a), (1, .int (zI x1)), (2, .int (zI x2)), (3, .int (zI 7)), (4, .long (zL w79)), (6, .int (zI v80))] dX12_waysOf_127 (by decide) rfl ?_
                    have c129_55 : ∀ (m_c129_55 : Nat) (v94 : Int) (s56 : zS), 2147483648 - v94 < m_c129_55 → (0 ≤ v94 ∧ v94 ≤ 515) → (zSK G s56) → (zFr [84] G s35 s56) → (zEp (v94).toNat (s56 (gP G a 27)) (s35 (gP G a 55)) 3605) → JJ X E 8 G s56 0 0 [(0, .ref a), (1, .int (zI x1)), (2, .int (zI x2)), (3, .int (zI 7)), (4, .long (zL w79)), (6, .int (zI v80)), (7, .int (zI v94))] 129 [] := by
                      intro m_c129_55
                      induction m_c129_55 with
                      | zero => intro v94 s56 hm_c129_55 fA57 hS_s56 hF_s56 hE2; exfalso; omega
                      | succ m_c129_55 ih_c129_55 => 
                        intro v94 s56 hm_c129_55 fA57 hS_s56 hF_s56 hE2
                        refine j_iload hx 6 dX12_waysOf_129 rfl ?_
                        refine j_sipush hx dX12_waysOf_131 rfl ?_
                        refine j_icmp_ge hx 163 dX12_waysOf_134 rfl (by omega) ⟨by decide, by decide⟩ (fun h95 => ?_) (fun h95 => ?_)
                        · skip
                          have z96 := zEp_zc (L := 7) hE2 (by omega) fA54 (by decide)
                          refine j_aload_n hx 0 dX12_waysOf_163 rfl ?_
                          refine j_iload hx 5 dX12_waysOf_164 rfl ?_
                          have g97 : s56 a 0 = s35 a 0 := (by rw [(zFr_g hF_s56 ha (by decide))])
                          have f98 := zf hS_s35 ha (k := 0) rfl
                          have g99 : s56 a 3 = s35 a 3 := (by rw [(zFr_g hF_s56 ha (by decide))])
                          have f100 := zf hS_s35 ha (k := 3) rfl
                          have g101 : s56 a 4 = s35 a 4 := (by rw [(zFr_g hF_s56 ha (by decide))])
                          have f102 := zf hS_s35 ha (k := 4) rfl
                          have g103 : s56 a 5 = s35 a 5 := (by rw [(zFr_g hF_s56 ha (by decide))])
                          have f104 := zf hS_s35 ha (k := 5) rfl
                          have g105 : s56 a 7 = s35 a 7 := (by rw [(zFr_g hF_s56 ha (by decide))])
                          have f106 := zf hS_s35 ha (k := 7) rfl
                          have g107 : s56 a 21 = s35 a 21 := (by rw [(zFr_g hF_s56 ha (by decide))])
                          have f108 := zf hS_s35 ha (k := 21) rfl
                          have g109 : s56 a 22 = s35 a 22 := (by rw [(zFr_g hF_s56 ha (by decide))])
                          have f110 := zf hS_s35 ha (k := 22) rfl
                          have g111 : s56 a 23 = s35 a 23 := (by rw [(zFr_g hF_s56 ha (by decide))])
                          have f112 := zf hS_s35 ha (k := 23) rfl
                          have g113 : s56 a 24 = s35 a 24 := (by rw [(zFr_g hF_s56 ha (by decide))])
                          have g114 : s56 a 38 = s35 a 38 := (by rw [(zFr_g hF_s56 ha (by decide))])
                          have f115 := zf hS_s35 ha (k := 38) rfl
                          have g116 : s56 a 51 = s35 a 51 := (by rw [(zFr_g hF_s56 ha (by decide))])
                          have f117 := zf hS_s35 ha (k := 51) rfl
                          have g118 : s56 a 52 = s35 a 52 := (by rw [(zFr_g hF_s56 ha (by decide))])
                          have f119 := zf hS_s35 ha (k := 52) rfl
                          refine j_callV hx hG (c_X12_turnFor hst a v80) lk_RX12_453 ha (by decide) rfl rfl rfl rfl [.int (zI v80)] ⟨rfl, hG, hS_s56, ha, (by omega), (by omega), (by omega)⟩ rfl rfl ⟨by decide, by decide⟩ ⟨by decide, by decide⟩ (k2 := 0) (n2 := 0) rfl rfl (Nat.le_of_ble_eq_true rfl) dX12_waysOf_166 (kIM (fun v120 s61 hS_s61 hF_s61 q121 => ?_))
                          refine j_pop hx dX12_waysOf_169 rfl ?_
                          refine j_lload hx 4 dX12_waysOf_170 rfl ?_
                          refine j_aload_n hx 0 dX12_waysOf_172 rfl ?_
                          refine g13_17 hx hG ha kf_RX12_44 dX12_waysOf_173 ?_
                          refine j_iconst hx dX12_waysOf_176 ?_
                          refine j_iload hx 5 dX12_waysOf_177 rfl ?_
                          refine j_imul hx (r := 4 * v80) dX12_waysOf_179 rfl ?_
                          have f122 := zaI (j := (4 * v80).toNat) hS0 (zr (k := 17) (t2 := 80) hG ha rfl) rfl (zlen hG (zr (k := 17) (t2 := 80) hG ha rfl) (n := 12) rfl rfl) (show 0 ≤ 4 * v80 by omega) (by omega) rfl
                          refine j_iald hx hG (zr (k := 17) (t2 := 80) hG ha rfl) (by decide) rfl (zlen hG (zr (k := 17) (t2 := 80) hG ha rfl) (n := 12) rfl rfl) (by omega) (by omega) (j := (4 * v80).toNat) rfl (v := (s0 (gP G a 17) (4 * v80).toNat)) (by rw [(zFr_g hF_s61 (zr (k := 17) (t2 := 80) hG ha rfl) (by decide)), (zFr_g hF_s56 (zr (k := 17) (t2 := 80) hG ha rfl) (by decide)), (zFr_g hF_s35 (zr (k := 17) (t2 := 80) hG ha rfl) (by decide)), (zFr_g hF_s8 (zr (k := 17) (t2 := 80) hG ha rfl) (by decide)), (zFr_g hF_s2 (zr (k := 17) (t2 := 80) hG ha rfl) (by decide))]) dX12_waysOf_180 ?_
                          refine j_i2l hx dX12_waysOf_181 (by omega) ?_
                          refine j_aload_n hx 0 dX12_waysOf_182 rfl ?_
                          refine j_iload_n hx 1 dX12_waysOf_183 rfl ?_
                          refine j_iload_n hx 2 dX12_waysOf_184 rfl ?_
                          refine j_iconst hx dX12_waysOf_185 ?_
                          refine j_isub hx (r := x2 - 1) dX12_waysOf_186 rfl ?_
                          refine j_iload_n hx 3 dX12_waysOf_187 rfl ?_
                          refine j_iconst hx dX12_waysOf_188 ?_
                          refine j_iadd hx (r := 8) dX12_waysOf_189 (by omega) ?_
                          have f123 := zf hS_s61 ha (k := 0) rfl
                          have f124 := zf hS_s61 ha (k := 3) rfl
                          have f125 := zf hS_s61 ha (k := 4) rfl
                          have f126 := zf hS_s61 ha (k := 5) rfl
                          have f127 := zf hS_s61 ha (k := 7) rfl
                          have f128 := zf hS_s61 ha (k := 21) rfl
                          have f129 := zf hS_s61 ha (k := 22) rfl
                          have f130 := zf hS_s61 ha (k := 23) rfl
                          have f131 := zf hS_s61 ha (k := 24) rfl
                          have f132 := zf hS_s61 ha (k := 38) rfl
                          have f133 := zf hS_s61 ha (k := 51) rfl
                          have f134 := zf hS_s61 ha (k := 52) rfl
                          refine j_callV hx hG (c_X12_waysOf_8 hst a x1 (x2 - 1) 8) lk_RX12_487 ha (by decide) rfl rfl rfl rfl [.int (zI x1), .int (zI (x2 - 1)), .int (zI 8)] ⟨rfl, hG, hS_s61, ha, (by omega), (by omega), (by omega), (by omega), (by omega), ((by have q1 : s61 (gP G a 55) = s35 (gP G a 55) := (by rw [hF_s61 (gP G a 55) (by rw [(zr (k := 55) (t2 := 104) hG ha rfl)]; decide), hF_s56 (gP G a 55) (by rw [(zr (k := 55) (t2 := 104) hG ha rfl)]; decide)]); rw [q1]; exact fA54))⟩ rfl rfl ⟨by decide, by decide⟩ ⟨by decide, by decide⟩ (k2 := 0) (n2 := 0) rfl rfl (Nat.le_of_ble_eq_true rfl) dX12_waysOf_190 (kLM (fun v135 s62 hS_s62 hF_s62 q136 => ?_))
                          refine j_lmul hx dX12_waysOf_193 (fun w137 f138 f139 => ?_)
                          refine j_ladd hx dX12_waysOf_194 (fun w140 f141 f142 => ?_)
                          refine j_lstore hx [(4, .long (zL w140)), (0, .ref a), (1, .int (zI x1)), (2, .int (zI x2)), (3, .int (zI 7)), (6, .int (zI v80)), (7, .int (zI v94))] dX12_waysOf_195 (by decide) rfl ?_
                          refine j_iinc hx 5 [(6, .int (zI (v80 + 1))), (4, .long (zL w140)), (0, .ref a), (1, .int (zI x1)), (2, .int (zI x2)), (3, .int (zI 7)), (7, .int (zI v94))] dX12_waysOf_197 rfl (by omega) (by decide) rfl ?_
                          refine j_goto hx 117 dX12_waysOf_200 rfl ?_
                          have f143 := zf hS_s62 ha (k := 0) rfl
                          have f144 := zf hS_s62 ha (k := 3) rfl
                          have f145 := zf hS_s62 ha (k := 4) rfl
                          have f146 := zf hS_s62 ha (k := 5) rfl
                          have f147 := zf hS_s62 ha (k := 7) rfl
                          have f148 := zf hS_s62 ha (k := 21) rfl
                          have f149 := zf hS_s62 ha (k := 22) rfl
                          have f150 := zf hS_s62 ha (k := 23) rfl
                          have f151 := zf hS_s62 ha (k := 24) rfl
                          have f152 := zf hS_s62 ha (k := 38) rfl
                          have f153 := zf hS_s62 ha (k := 51) rfl
                          have f154 := zf hS_s62 ha (k := 52) rfl
                          exact j_sub [2, 3, 4, 5, 1, 0] [(0, .ref a), (1, .int (zI x1)), (2, .int (zI x2)), (3, .int (zI 7)), (4, .long (zL w140)), (6, .int (zI (v80 + 1)))] rfl (ih_c117_34 w140 (v80 + 1) s62 (by omega) (by omega) (by omega) hS_s62 (zFr_t (zFr_t (zFr_t (zFr_t zFr_rf hF_s35 (by decide)) hF_s56 (by decide)) hF_s61 (by decide)) hF_s62 (by decide)) (by omega) (by omega) (by omega) (by omega) (by omega) (by omega) (by omega) (by omega) (by omega) (by omega) (by omega) (by omega) (by omega) (by omega) q136.2.2.2.1)
                        · skip
                          refine j_aload_n hx 0 dX12_waysOf_137 rfl ?_
                          refine g13_27 hx hG ha kf_RX12_56 dX12_waysOf_138 ?_
                          refine j_iload hx 6 dX12_waysOf_141 rfl ?_
                          refine j_aload_n hx 0 dX12_waysOf_143 rfl ?_
                          refine g13_55 hx hG ha kf_RX12_118 dX12_waysOf_144 ?_
                          refine j_sipush hx dX12_waysOf_147 rfl ?_
                          refine j_iload_n hx 3 dX12_waysOf_150 rfl ?_
                          refine j_imul hx (r := 3605) dX12_waysOf_151 (by omega) ?_
                          refine j_iload hx 6 dX12_waysOf_152 rfl ?_
                          refine j_iadd hx (r := v94 + 3605) dX12_waysOf_154 (by omega) ?_
                          have f155 := zah (j := (v94 + 3605).toNat) hS_s35 (zr (k := 55) (t2 := 104) hG ha rfl) (fun k => ⟨_, rfl, (axS_h _).1, (axS_h _).2.1⟩) (zlen hG (zr (k := 55) (t2 := 104) hG ha rfl) (n := 6695) rfl rfl) (show 0 ≤ v94 + 3605 by omega) (by omega) rfl
                          refine j_iald hx hG (zr (k := 55) (t2 := 104) hG ha rfl) (by decide) rfl (zlen hG (zr (k := 55) (t2 := 104) hG ha rfl) (n := 6695) rfl rfl) (by omega) (by omega) (j := (v94 + 3605).toNat) rfl (v := (s35 (gP G a 55) (v94 + 3605).toNat)) (by rw [(zFr_g hF_s56 (zr (k := 55) (t2 := 104) hG ha rfl) (by decide))]) dX12_waysOf_155 ?_
                          refine j_iast hx hG (zr (k := 27) (t2 := 84) hG ha rfl) (by decide) rfl (zlen hG (zr (k := 27) (t2 := 84) hG ha rfl) (n := 515) rfl rfl) (by omega) (by omega) (j := (v94).toNat) rfl dX12_waysOf_156 ?_
                          obtain ⟨s63, e_s63⟩ : ∃ z, z = zU s56 (gP G a 27) (v94).toNat ((s35 (gP G a 55) (v94 + 3605).toNat)) := ⟨_, rfl⟩
                          rw [← e_s63]
                          have hS_s63 : zSK G s63 := by rw [e_s63]; exact zSK_cq hS_s56 hS_s35 (zr (k := 27) (t2 := 84) hG ha rfl) (zr (k := 55) (t2 := 104) hG ha rfl) (fun _ => rfl) rfl (j2 := (v94 + 3605).toNat) (by exact congrArg (fun z => some (axS z)) (by omega)) (by have := (zlen hG (zr (k := 55) (t2 := 104) hG ha rfl) (n := 6695) rfl rfl); omega) rfl
                          refine j_iinc hx 6 [(7, .int (zI (v94 + 1))), (0, .ref a), (1, .int (zI x1)), (2, .int (zI x2)), (3, .int (zI 7)), (4, .long (zL w79)), (6, .int (zI v80))] dX12_waysOf_157 rfl (by omega) (by decide) rfl ?_
                          refine j_goto hx 129 dX12_waysOf_160 rfl ?_
                          exact j_sub [1, 2, 3, 4, 5, 6, 0] [(0, .ref a), (1, .int (zI x1)), (2, .int (zI x2)), (3, .int (zI 7)), (4, .long (zL w79)), (6, .int (zI v80)), (7, .int (zI (v94 + 1)))] rfl (ih_c129_55 (v94 + 1) s63 (by omega) (by omega) hS_s63 (zFr_u (zFr_t zFr_rf hF_s56 (by decide)) e_s63 (zr (k := 27) (t2 := 84) hG ha rfl) (by decide)) (zEp_s hE2 e_s63 (by omega) (by omega) rfl))
                    exact j_sub [1, 2, 3, 4, 5, 6, 0] [(0, .ref a), (1, .int (zI x1)), (2, .int (zI x2)), (3, .int (zI 7)), (4, .long (zL w79)), (6, .int (zI v80)), (7, .int (zI 0))] rfl (c129_55 (2147483648 * 4) 0 s35 (by omega) (by omega) hS_s35 zFr_rf (zEp_0 (by omega)))
              exact j_sub [2, 3, 4, 5, 1, 0] [(0, .ref a), (1, .int (zI x1)), (2, .int (zI x2)), (3, .int (zI 7)), (4, .long (zL 0)), (6, .int (zI 0))] rfl (c117_34 (2147483648 * 4) 0 0 s8 (by omega) (by omega) (by omega) hS_s8 zFr_rf (by omega) (by omega) (by omega) (by omega) (by omega) (by omega) (by omega) (by omega) (by omega) (by omega) (by omega) (by omega) (by omega) (by omega) (by have q1 : s8 (gP G a 55) = s2 (gP G a 55) := (by rw [hF_s8 (gP G a 55) (by rw [(zr (k := 55) (t2 := 104) hG ha rfl)]; decide)]); rw [q1]; exact hP4))
            · skip
              refine j_aload_n hx 1 dX12_waysOf_92 rfl ?_
              refine j_callV hx hG (c_X12_quickness hst a) lk_RX12_484 ha (by decide) rfl rfl rfl rfl [] ⟨rfl, hG, hS_s8, ha⟩ rfl rfl ⟨by decide, by decide⟩ ⟨by decide, by decide⟩ (k2 := 0) (n2 := 0) rfl rfl (Nat.le_of_ble_eq_true rfl) dX12_waysOf_93 (kIP (fun v157 q158 => ?_))
              refine j_i2l hx dX12_waysOf_96 (by omega) ?_
              refine j_aload_n hx 1 dX12_waysOf_97 rfl ?_
              refine j_iload_n hx 2 dX12_waysOf_98 rfl ?_
              refine j_iload_n hx 3 dX12_waysOf_99 rfl ?_
              refine j_iconst hx dX12_waysOf_100 ?_
              refine j_isub hx (r := x2 - 1) dX12_waysOf_101 rfl ?_
              refine j_iload_n hx 4 dX12_waysOf_102 rfl ?_
              refine j_iconst hx dX12_waysOf_103 ?_
              refine j_iadd hx (r := 8) dX12_waysOf_104 (by omega) ?_
              refine j_callV hx hG (c_X12_waysOf_8 hst a x1 (x2 - 1) 8) lk_RX12_487 ha (by decide) rfl rfl rfl rfl [.int (zI x1), .int (zI (x2 - 1)), .int (zI 8)] ⟨rfl, hG, hS_s8, ha, (by omega), (by omega), (by omega), (by omega), (by omega), ((by have q1 : s8 (gP G a 55) = s2 (gP G a 55) := (by rw [hF_s8 (gP G a 55) (by rw [(zr (k := 55) (t2 := 104) hG ha rfl)]; decide)]); rw [q1]; exact hP4))⟩ rfl rfl ⟨by decide, by decide⟩ ⟨by decide, by decide⟩ (k2 := 0) (n2 := 0) rfl rfl (Nat.le_of_ble_eq_true rfl) dX12_waysOf_105 (kLM (fun v159 s64 hS_s64 hF_s64 q160 => ?_))
              refine j_lmul hx dX12_waysOf_108 (fun w161 f162 f163 => ?_)
              refine j_lstore hx [(4, .long (zL w161)), (0, .ref a), (1, .int (zI x1)), (2, .int (zI x2)), (3, .int (zI 7))] dX12_waysOf_109 (by decide) rfl ?_
              refine j_goto hx 203 dX12_waysOf_111 rfl ?_
              have f164 := zf hS_s64 ha (k := 0) rfl
              have f165 := zf hS_s64 ha (k := 3) rfl
              have f166 := zf hS_s64 ha (k := 4) rfl
              have f167 := zf hS_s64 ha (k := 5) rfl
              have f168 := zf hS_s64 ha (k := 7) rfl
              have f169 := zf hS_s64 ha (k := 21) rfl
              have f170 := zf hS_s64 ha (k := 22) rfl
              have f171 := zf hS_s64 ha (k := 23) rfl
              have f172 := zf hS_s64 ha (k := 24) rfl
              have f173 := zf hS_s64 ha (k := 38) rfl
              have f174 := zf hS_s64 ha (k := 51) rfl
              have f175 := zf hS_s64 ha (k := 52) rfl
              exact j_sub [1, 4, 0] [(0, .ref a), (3, .int (zI 7)), (4, .long (zL w161))] rfl (c203_9 w161 s64 (by omega) hS_s64 (zFr_t zFr_rf hF_s64 (by decide)) (by omega) (by omega) (by omega) (by omega) (by omega) (by omega) (by omega) (by omega) (by omega) (by omega) (by omega) (by omega) q160.2.2.2.1)
          · skip
            refine j_aload_n hx 1 dX12_waysOf_66 rfl ?_
            refine j_callV hx hG (c_X12_quickness hst a) lk_RX12_484 ha (by decide) rfl rfl rfl rfl [] ⟨rfl, hG, hS_s8, ha⟩ rfl rfl ⟨by decide, by decide⟩ ⟨by decide, by decide⟩ (k2 := 0) (n2 := 0) rfl rfl (Nat.le_of_ble_eq_true rfl) dX12_waysOf_67 (kIP (fun v176 q177 => ?_))
            refine j_i2l hx dX12_waysOf_70 (by omega) ?_
            refine j_aload_n hx 1 dX12_waysOf_71 rfl ?_
            refine j_iload_n hx 2 dX12_waysOf_72 rfl ?_
            refine j_iload_n hx 3 dX12_waysOf_73 rfl ?_
            refine j_iconst hx dX12_waysOf_74 ?_
            refine j_isub hx (r := x2 - 1) dX12_waysOf_75 rfl ?_
            refine j_iload_n hx 4 dX12_waysOf_76 rfl ?_
            refine j_iconst hx dX12_waysOf_77 ?_
            refine j_iadd hx (r := 8) dX12_waysOf_78 (by omega) ?_
            have f178 := zf hS_s8 ha (k := 0) rfl
            have f179 := zf hS_s8 ha (k := 3) rfl
            have f180 := zf hS_s8 ha (k := 4) rfl
            have f181 := zf hS_s8 ha (k := 5) rfl
            have f182 := zf hS_s8 ha (k := 7) rfl
            have f183 := zf hS_s8 ha (k := 21) rfl
            have f184 := zf hS_s8 ha (k := 22) rfl
            have f185 := zf hS_s8 ha (k := 23) rfl
            have f186 := zf hS_s8 ha (k := 24) rfl
            have f187 := zf hS_s8 ha (k := 38) rfl
            have f188 := zf hS_s8 ha (k := 51) rfl
            have f189 := zf hS_s8 ha (k := 52) rfl
            refine j_callV hx hG (c_X12_waysOf_8 hst a x1 (x2 - 1) 8) lk_RX12_487 ha (by decide) rfl rfl rfl rfl [.int (zI x1), .int (zI (x2 - 1)), .int (zI 8)] ⟨rfl, hG, hS_s8, ha, (by omega), (by omega), (by omega), (by omega), (by omega), ((by have q1 : s8 (gP G a 55) = s2 (gP G a 55) := (by rw [hF_s8 (gP G a 55) (by rw [(zr (k := 55) (t2 := 104) hG ha rfl)]; decide)]); rw [q1]; exact hP4))⟩ rfl rfl ⟨by decide, by decide⟩ ⟨by decide, by decide⟩ (k2 := 0) (n2 := 0) rfl rfl (Nat.le_of_ble_eq_true rfl) dX12_waysOf_79 (kLM (fun v190 s65 hS_s65 hF_s65 q191 => ?_))
            refine j_lmul hx dX12_waysOf_82 (fun w192 f193 f194 => ?_)
            have f195 := zf hS_s65 ha (k := 0) rfl
            have f196 := zf hS_s65 ha (k := 3) rfl
            have f197 := zf hS_s65 ha (k := 4) rfl
            have f198 := zf hS_s65 ha (k := 5) rfl
            have f199 := zf hS_s65 ha (k := 7) rfl
            have f200 := zf hS_s65 ha (k := 21) rfl
            have f201 := zf hS_s65 ha (k := 22) rfl
            have f202 := zf hS_s65 ha (k := 23) rfl
            have f203 := zf hS_s65 ha (k := 24) rfl
            have f204 := zf hS_s65 ha (k := 38) rfl
            have f205 := zf hS_s65 ha (k := 51) rfl
            have f206 := zf hS_s65 ha (k := 52) rfl
            exact j_lret hx hq rfl (by decide) (by decide) dX12_waysOf_83 ⟨w192, rfl, rfl, hS_s65, (zFr_t (zFr_t (zFr_t zFr_rf hF_s2 (by decide)) hF_s8 (by decide)) hF_s65 (by decide)), ⟨(by omega), by omega, by omega, q191.2.2.2.1, by omega, by omega, by omega, by omega, by omega, by omega, by omega, by omega, by omega, by omega, by omega, by omega⟩⟩
        · skip
          refine j_aload_n hx 0 dX12_waysOf_29 rfl ?_
          refine g13_55 hx hG ha kf_RX12_118 dX12_waysOf_30 ?_
          refine j_sipush hx dX12_waysOf_33 rfl ?_
          refine j_iload_n hx 3 dX12_waysOf_36 rfl ?_
          refine j_imul hx (r := 3605) dX12_waysOf_37 (by omega) ?_
          refine j_iload hx 4 dX12_waysOf_38 rfl ?_
          refine j_iadd hx (r := v2 + 3605) dX12_waysOf_40 (by omega) ?_
          refine j_aload_n hx 0 dX12_waysOf_41 rfl ?_
          refine g13_27 hx hG ha kf_RX12_56 dX12_waysOf_42 ?_
          refine j_iload hx 4 dX12_waysOf_45 rfl ?_
          have f207 := zah (j := (v2).toNat) hS0 (zr (k := 27) (t2 := 84) hG ha rfl) (fun k => ⟨_, rfl, (axS_h _).1, (axS_h _).2.1⟩) (zlen hG (zr (k := 27) (t2 := 84) hG ha rfl) (n := 515) rfl rfl) (show 0 ≤ v2 by omega) (by omega) rfl
          refine j_iald hx hG (zr (k := 27) (t2 := 84) hG ha rfl) (by decide) rfl (zlen hG (zr (k := 27) (t2 := 84) hG ha rfl) (n := 515) rfl rfl) (by omega) (by omega) (j := (v2).toNat) rfl (v := (s0 (gP G a 27) (v2).toNat)) (by rw [(zFr_g hF_s2 (zr (k := 27) (t2 := 84) hG ha rfl) (by decide))]) dX12_waysOf_47 ?_
          refine j_iast hx hG (zr (k := 55) (t2 := 104) hG ha rfl) (by decide) rfl (zlen hG (zr (k := 55) (t2 := 104) hG ha rfl) (n := 6695) rfl rfl) (by omega) (by omega) (j := (v2 + 3605).toNat) rfl dX12_waysOf_48 ?_
          obtain ⟨s66, e_s66⟩ : ∃ z, z = zU s2 (gP G a 55) (v2 + 3605).toNat ((s0 (gP G a 27) (v2).toNat)) := ⟨_, rfl⟩
          rw [← e_s66]
          have hS_s66 : zSK G s66 := by rw [e_s66]; exact zSK_cq hS_s2 hS0 (zr (k := 55) (t2 := 104) hG ha rfl) (zr (k := 27) (t2 := 84) hG ha rfl) (fun _ => rfl) rfl (j2 := (v2).toNat) (by exact congrArg (fun z => some (axS z)) (by omega)) (by have := (zlen hG (zr (k := 27) (t2 := 84) hG ha rfl) (n := 515) rfl rfl); omega) rfl
          refine j_iinc hx 4 [(4, .int (zI (v2 + 1))), (0, .ref a), (1, .int (zI x1)), (2, .int (zI x2)), (3, .int (zI 7))] dX12_waysOf_49 rfl (by omega) (by decide) rfl ?_
          refine j_goto hx 21 dX12_waysOf_52 rfl ?_
          exact j_sub [1, 2, 3, 4, 0] [(0, .ref a), (1, .int (zI x1)), (2, .int (zI x2)), (3, .int (zI 7)), (4, .int (zI (v2 + 1)))] rfl (ih_c21_1 (v2 + 1) s66 (by omega) (by omega) hS_s66 (zFr_u (zFr_t zFr_rf hF_s2 (by decide)) e_s66 (zr (k := 55) (t2 := 104) hG ha rfl) (by decide)) (zDx_s hD1 e_s66 (by omega)) (zEo_s hE1 e_s66 (by omega) (by omega) rfl))
    exact j_sub [1, 2, 3, 4, 0] [(0, .ref a), (1, .int (zI x1)), (2, .int (zI x2)), (3, .int (zI 7)), (4, .int (zI 0))] rfl (c21_1 (2147483648 * 4) 0 s0 (by omega) (by omega) hS0 zFr_rf (zDx_of e2) (zEo_0 (by omega)))
  · skip
    refine j_aload_n hx 0 dX12_waysOf_4 rfl ?_
    refine j_iload_n hx 1 dX12_waysOf_5 rfl ?_
    refine j_callV hx hG (c_X12_hasMost hst a x1) lk_RX12_481 ha (by decide) rfl rfl rfl rfl [.int (zI x1)] ⟨rfl, hG, hS0, ha, (by omega)⟩ rfl rfl ⟨by decide, by decide⟩ ⟨by decide, by decide⟩ (k2 := 0) (n2 := 0) rfl rfl (Nat.le_of_ble_eq_true rfl) dX12_waysOf_6 (kIP (fun v208 q209 => ?_))
    refine j_if_eq hx 16 dX12_waysOf_9 rfl (by omega) (fun h210 => ?_) (fun h210 => ?_)
    · skip
      refine j_lconst hx dX12_waysOf_16 ?_
      show JJ X E 8 G s0 0 0 [(0, .ref a), (1, .int (zI x1)), (2, .int (zI x2)), (3, .int (zI 7))] 17 [.long (zL 0)]
      have f211 := zf hS0 ha (k := 0) rfl
      have f212 := zf hS0 ha (k := 3) rfl
      have f213 := zf hS0 ha (k := 4) rfl
      have f214 := zf hS0 ha (k := 5) rfl
      have f215 := zf hS0 ha (k := 7) rfl
      have f216 := zf hS0 ha (k := 21) rfl
      have f217 := zf hS0 ha (k := 22) rfl
      have f218 := zf hS0 ha (k := 23) rfl
      have f219 := zf hS0 ha (k := 24) rfl
      have f220 := zf hS0 ha (k := 38) rfl
      have f221 := zf hS0 ha (k := 51) rfl
      have f222 := zf hS0 ha (k := 52) rfl
      exact j_lret hx hq rfl (by decide) (by decide) dX12_waysOf_17 ⟨0, rfl, rfl, hS0, zFr_rf, ⟨(by omega), by omega, by omega, e2, by omega, by omega, by omega, by omega, by omega, by omega, by omega, by omega, by omega, by omega, by omega, by omega⟩⟩
    · skip
      refine j_lconst hx dX12_waysOf_12 ?_
      show JJ X E 8 G s0 0 0 [(0, .ref a), (1, .int (zI x1)), (2, .int (zI x2)), (3, .int (zI 7))] 13 [.long (zL 1)]
      refine j_goto hx 17 dX12_waysOf_13 rfl ?_
      have f223 := zf hS0 ha (k := 0) rfl
      have f224 := zf hS0 ha (k := 3) rfl
      have f225 := zf hS0 ha (k := 4) rfl
      have f226 := zf hS0 ha (k := 5) rfl
      have f227 := zf hS0 ha (k := 7) rfl
      have f228 := zf hS0 ha (k := 21) rfl
      have f229 := zf hS0 ha (k := 22) rfl
      have f230 := zf hS0 ha (k := 23) rfl
      have f231 := zf hS0 ha (k := 24) rfl
      have f232 := zf hS0 ha (k := 38) rfl
      have f233 := zf hS0 ha (k := 51) rfl
      have f234 := zf hS0 ha (k := 52) rfl
      exact j_lret hx hq rfl (by decide) (by decide) dX12_waysOf_17 ⟨1, rfl, rfl, hS0, zFr_rf, ⟨(by omega), by omega, by omega, e2, by omega, by omega, by omega, by omega, by omega, by omega, by omega, by omega, by omega, by omega, by omega, by omega⟩⟩

set_option maxHeartbeats 1200000 in
set_option maxRecDepth 20000 in
theorem c_X12_waysOf_6 {E : zE} {l : Launch} (hst : l.stackTraces = false) (a : Nat) (x1 : Int) (x2 : Int) (x3 : Int) : Con E l yX12_waysOf cX12_waysOf 8 (some .long) { frames := 10, cells := 0, slots := 0, locals := 253 } (fun G s vs => vs = [.ref a, .int (zI x1), .int (zI x2), .int (zI x3)] ∧ zGK G ∧ zSK G s ∧ (gT G a = 13) ∧ (0 ≤ x1 ∧ x1 ≤ 2) ∧ (0 ≤ x2 ∧ x2 ≤ 6) ∧ (6 ≤ x3 ∧ x3 ≤ 6) ∧ (zc (s (gP G a 27)) ≤ 60) ∧ (s (gP G a 27) 488 ≤ 590006) ∧ (zDp (s (gP G a 55)))) (fun G s _ => pL (fun r G2 s2 => G2 = G ∧ zSK G s2 ∧ zFr [13, 84, 104] G s s2 ∧ ((-9223372036854775808) ≤ r ∧ r ≤ 9223372036854775807) ∧ zc (s2 (gP G a 27)) ≤ 60 ∧ s2 (gP G a 27) 488 ≤ 590013 ∧ zDp (s2 (gP G a 55)) ∧ s2 a 0 = s a 0 ∧ s2 a 3 = s a 3 ∧ s2 a 4 = s a 4 ∧ s2 a 5 = s a 5 ∧ s2 a 7 = s a 7 ∧ s2 a 21 = s a 21 ∧ s2 a 22 = s a 22 ∧ s2 a 23 = s a 23 ∧ s2 a 24 = s a 24 ∧ s2 a 38 = s a 38 ∧ s2 a 51 = s a 51 ∧ s2 a 52 = s a 52)) := by
  refine Con.mk hst (by decide) (fun G s vs h => by rw [h.1]; exact Nat.le_of_ble_eq_true rfl) ?_
  rintro X G s0 vs ⟨rfl, hG, hS0, ha, hx1, hx2, hx3, e0, e1, e2⟩ rfl hx hq
  obtain rfl : x3 = 6 := by omega
  show JJ X E 8 G s0 0 0 [(0, .ref a), (1, .int (zI x1)), (2, .int (zI x2)), (3, .int (zI 6))] 0 []
  refine j_iload_n hx 2 dX12_waysOf_0 rfl ?_
  refine j_if_ne hx 18 dX12_waysOf_1 rfl (by omega) (fun h1 => ?_) (fun h1 => ?_)
  · skip
    refine j_iconst hx dX12_waysOf_18 ?_
    refine j_istore hx [(4, .int (zI 0)), (0, .ref a), (1, .int (zI x1)), (2, .int (zI x2)), (3, .int (zI 6))] dX12_waysOf_19 (by decide) rfl ?_
    have c21_1 : ∀ (m_c21_1 : Nat) (v2 : Int) (s2 : zS), 2147483648 - v2 < m_c21_1 → (0 ≤ v2 ∧ v2 ≤ 515) → (zSK G s2) → (zFr [104] G s0 s2) → (zDx 6 (s2 (gP G a 55))) → (zEo (v2).toNat (s2 (gP G a 55)) (s0 (gP G a 27)) 3090) → JJ X E 8 G s2 0 0 [(0, .ref a), (1, .int (zI x1)), (2, .int (zI x2)), (3, .int (zI 6)), (4, .int (zI v2))] 21 [] := by
      intro m_c21_1
      induction m_c21_1 with
      | zero => intro v2 s2 hm_c21_1 fA3 hS_s2 hF_s2 hD1 hE1; exfalso; omega
      | succ m_c21_1 ih_c21_1 => 
        intro v2 s2 hm_c21_1 fA3 hS_s2 hF_s2 hD1 hE1
        refine j_iload hx 4 dX12_waysOf_21 rfl ?_
        refine j_sipush hx dX12_waysOf_23 rfl ?_
        refine j_icmp_ge hx 55 dX12_waysOf_26 rfl (by omega) ⟨by decide, by decide⟩ (fun h3 => ?_) (fun h3 => ?_)
        · skip
          have hP4 : zDp (s2 (gP G a 55)) := zDp_in (L := 6) hD1 hE1 (by omega) (by omega) (by omega)
          refine j_lconst hx dX12_waysOf_55 ?_
          show JJ X E 8 G s2 0 0 [(0, .ref a), (1, .int (zI x1)), (2, .int (zI x2)), (3, .int (zI 6)), (4, .int (zI v2))] 56 [.long (zL 0)]
          refine j_lstore hx [(4, .long (zL 0)), (0, .ref a), (1, .int (zI x1)), (2, .int (zI x2)), (3, .int (zI 6))] dX12_waysOf_56 (by decide) rfl ?_
          refine j_aload_n hx 1 dX12_waysOf_58 rfl ?_
          refine j_iconst hx dX12_waysOf_59 ?_
          have g5 : zc (s2 (gP G a 27)) = zc (s0 (gP G a 27)) := by rw [hF_s2 (gP G a 27) (by rw [(zr (k := 27) (t2 := 84) hG ha rfl)]; decide)]
          have g6 : s2 (gP G a 27) 488 = s0 (gP G a 27) 488 := (by rw [(zFr_g hF_s2 (zr (k := 27) (t2 := 84) hG ha rfl) (by decide))])
          have g7 : s2 a 0 = s0 a 0 := (by rw [(zFr_g hF_s2 ha (by decide))])
          have f8 := zf hS0 ha (k := 0) rfl
          have g9 : s2 a 3 = s0 a 3 := (by rw [(zFr_g hF_s2 ha (by decide))])
          have f10 := zf hS0 ha (k := 3) rfl
          have g11 : s2 a 4 = s0 a 4 := (by rw [(zFr_g hF_s2 ha (by decide))])
          have f12 := zf hS0 ha (k := 4) rfl
          have g13 : s2 a 5 = s0 a 5 := (by rw [(zFr_g hF_s2 ha (by decide))])
          have f14 := zf hS0 ha (k := 5) rfl
          have g15 : s2 a 7 = s0 a 7 := (by rw [(zFr_g hF_s2 ha (by decide))])
          have f16 := zf hS0 ha (k := 7) rfl
          have g17 : s2 a 21 = s0 a 21 := (by rw [(zFr_g hF_s2 ha (by decide))])
          have f18 := zf hS0 ha (k := 21) rfl
          have g19 : s2 a 22 = s0 a 22 := (by rw [(zFr_g hF_s2 ha (by decide))])
          have f20 := zf hS0 ha (k := 22) rfl
          have g21 : s2 a 23 = s0 a 23 := (by rw [(zFr_g hF_s2 ha (by decide))])
          have f22 := zf hS0 ha (k := 23) rfl
          have g23 : s2 a 24 = s0 a 24 := (by rw [(zFr_g hF_s2 ha (by decide))])
          have f24 := zf hS0 ha (k := 24) rfl
          have g25 : s2 a 38 = s0 a 38 := (by rw [(zFr_g hF_s2 ha (by decide))])
          have f26 := zf hS0 ha (k := 38) rfl
          have g27 : s2 a 51 = s0 a 51 := (by rw [(zFr_g hF_s2 ha (by decide))])
          have f28 := zf hS0 ha (k := 51) rfl
          have g29 : s2 a 52 = s0 a 52 := (by rw [(zFr_g hF_s2 ha (by decide))])
          have f30 := zf hS0 ha (k := 52) rfl
          refine j_callV hx hG (c_X12_turnFor hst a (-1)) lk_RX12_453 ha (by decide) rfl rfl rfl rfl [.int (zI (-1))] ⟨rfl, hG, hS_s2, ha, (by omega), (by omega), (by omega)⟩ rfl rfl ⟨by decide, by decide⟩ ⟨by decide, by decide⟩ (k2 := 0) (n2 := 0) rfl rfl (Nat.le_of_ble_eq_true rfl) dX12_waysOf_60 (kIM (fun v31 s8 hS_s8 hF_s8 q32 => ?_))
          refine j_if_ne hx 84 dX12_waysOf_63 rfl (by omega) (fun h33 => ?_) (fun h33 => ?_)
          · skip
            refine j_aload_n hx 1 dX12_waysOf_84 rfl ?_
            refine j_callV hx hG (c_X12_alikes hst a) lk_RX12_343 ha (by decide) rfl rfl rfl rfl [] ⟨rfl, hG, hS_s8, ha⟩ rfl rfl ⟨by decide, by decide⟩ ⟨by decide, by decide⟩ (k2 := 0) (n2 := 0) rfl rfl (Nat.le_of_ble_eq_true rfl) dX12_waysOf_85 (kIP (fun v34 q35 => ?_))
            refine j_iconst hx dX12_waysOf_88 ?_
            have f37 := zf hS_s8 ha (k := 0) rfl
            have f38 := zf hS_s8 ha (k := 3) rfl
            have f39 := zf hS_s8 ha (k := 4) rfl
            have f40 := zf hS_s8 ha (k := 5) rfl
            have f41 := zf hS_s8 ha (k := 7) rfl
            have f42 := zf hS_s8 ha (k := 21) rfl
            have f43 := zf hS_s8 ha (k := 22) rfl
            have f44 := zf hS_s8 ha (k := 23) rfl
            have f45 := zf hS_s8 ha (k := 24) rfl
            have f46 := zf hS_s8 ha (k := 38) rfl
            have f47 := zf hS_s8 ha (k := 51) rfl
            have f48 := zf hS_s8 ha (k := 52) rfl
            have c203_9 : ∀ (w36 : Int) (s10 : zS), ((-9223372036854775808) ≤ w36 ∧ w36 ≤ 9223372036854775807) → (zSK G s10) → (zFr [13, 84, 104] G s8 s10) → (s10 a 0 = s8 a 0) → (s10 a 3 = s8 a 3) → (s10 a 4 = s8 a 4) → (s10 a 5 = s8 a 5) → (s10 a 7 = s8 a 7) → (s10 a 21 = s8 a 21) → (s10 a 22 = s8 a 22) → (s10 a 23 = s8 a 23) → (s10 a 24 = s8 a 24) → (s10 a 38 = s8 a 38) → (s10 a 51 = s8 a 51) → (s10 a 52 = s8 a 52) → (zDp (s10 (gP G a 55))) → JJ X E 8 G s10 0 0 [(0, .ref a), (3, .int (zI 6)), (4, .long (zL w36))] 203 [] := by
              intro w36 s10 fA11 hS_s10 hF_s10 fA14 fA15 fA16 fA17 fA18 fA19 fA20 fA21 fA22 fA23 fA24 fA25 fA26
              refine j_iconst hx dX12_waysOf_203 ?_
              refine j_istore hx [(6, .int (zI 0)), (0, .ref a), (3, .int (zI 6)), (4, .long (zL w36))] dX12_waysOf_204 (by decide) rfl ?_
              have c206_27 : ∀ (m_c206_27 : Nat) (v49 : Int) (s28 : zS), 2147483648 - v49 < m_c206_27 → (0 ≤ v49 ∧ v49 ≤ 515) → (zSK G s28) → (zFr [84] G s10 s28) → (zEp (v49).toNat (s28 (gP G a 27)) (s10 (gP G a 55)) 3090) → JJ X E 8 G s28 0 0 [(0, .ref a), (3, .int (zI 6)), (4, .long (zL w36)), (6, .int (zI v49))] 206 [] := by
                intro m_c206_27
                induction m_c206_27 with
                | zero => intro v49 s28 hm_c206_27 fA29 hS_s28 hF_s28 hE3; exfalso; omega
                | succ m_c206_27 ih_c206_27 => 
                  intro v49 s28 hm_c206_27 fA29 hS_s28 hF_s28 hE3
                  refine j_iload hx 3 dX12_waysOf_206 rfl ?_
                  refine j_sipush hx dX12_waysOf_208 rfl ?_
                  refine j_icmp_ge hx 240 dX12_waysOf_211 rfl (by omega) ⟨by decide, by decide⟩ (fun h50 => ?_) (fun h50 => ?_)
                  · skip
                    have z51 := zEp_zc (L := 6) hE3 (by omega) fA26 (by decide)
                    refine j_lload hx 2 dX12_waysOf_240 rfl ?_
                    have g52 : s28 a 0 = s10 a 0 := (by rw [(zFr_g hF_s28 ha (by decide))])
                    have f53 := zf hS_s10 ha (k := 0) rfl
                    have g54 : s28 a 3 = s10 a 3 := (by rw [(zFr_g hF_s28 ha (by decide))])
                    have f55 := zf hS_s10 ha (k := 3) rfl
                    have g56 : s28 a 4 = s10 a 4 := (by rw [(zFr_g hF_s28 ha (by decide))])
                    have f57 := zf hS_s10 ha (k := 4) rfl
                    have g58 : s28 a 5 = s10 a 5 := (by rw [(zFr_g hF_s28 ha (by decide))])
                    have f59 := zf hS_s10 ha (k := 5) rfl
                    have g60 : s28 a 7 = s10 a 7 := (by rw [(zFr_g hF_s28 ha (by decide))])
                    have f61 := zf hS_s10 ha (k := 7) rfl
                    have g62 : s28 a 21 = s10 a 21 := (by rw [(zFr_g hF_s28 ha (by decide))])
                    have f63 := zf hS_s10 ha (k := 21) rfl
                    have g64 : s28 a 22 = s10 a 22 := (by rw [(zFr_g hF_s28 ha (by decide))])
                    have f65 := zf hS_s10 ha (k := 22) rfl
                    have g66 : s28 a 23 = s10 a 23 := (by rw [(zFr_g hF_s28 ha (by decide))])
                    have f67 := zf hS_s10 ha (k := 23) rfl
                    have g68 : s28 a 24 = s10 a 24 := (by rw [(zFr_g hF_s28 ha (by decide))])
                    have f69 := zf hS_s10 ha (k := 24) rfl
                    have g70 : s28 a 38 = s10 a 38 := (by rw [(zFr_g hF_s28 ha (by decide))])
                    have f71 := zf hS_s10 ha (k := 38) rfl
                    have g72 : s28 a 51 = s10 a 51 := (by rw [(zFr_g hF_s28 ha (by decide))])
                    have f73 := zf hS_s10 ha (k := 51) rfl
                    have g74 : s28 a 52 = s10 a 52 := (by rw [(zFr_g hF_s28 ha (by decide))])
                    have f75 := zf hS_s10 ha (k := 52) rfl
                    exact j_lret hx hq rfl (by decide) (by decide) dX12_waysOf_242 ⟨w36, rfl, rfl, hS_s28, (zFr_t (zFr_t (zFr_t (zFr_t zFr_rf hF_s2 (by decide)) hF_s8 (by decide)) hF_s10 (by decide)) hF_s28 (by decide)), ⟨(by omega), by omega, by omega, (by have q1 : s28 (gP G a 55) = s10 (gP G a 55) := (by rw [hF_s28 (gP G a 55) (by rw [(zr (k := 55) (t2 := 104) hG ha rfl)]; decide)]); rw [q1]; exact fA26), by omega, by omega, by omega, by omega, by omega, by omega, by omega, by omega, by omega, by omega, by omega, by omega⟩⟩
                  · skip
                    refine j_aload_n hx 0 dX12_waysOf_214 rfl ?_
                    refine g13_27 hx hG ha kf_RX12_56 dX12_waysOf_215 ?_
                    refine j_iload hx 3 dX12_waysOf_218 rfl ?_
                    refine j_aload_n hx 0 dX12_waysOf_220 rfl ?_
                    refine g13_55 hx hG ha kf_RX12_118 dX12_waysOf_221 ?_
                    refine j_sipush hx dX12_waysOf_224 rfl ?_
                    refine j_iload_n hx 1 dX12_waysOf_227 rfl ?_
                    refine j_imul hx (r := 3090) dX12_waysOf_228 (by omega) ?_
                    refine j_iload hx 3 dX12_waysOf_229 rfl ?_
                    refine j_iadd hx (r := v49 + 3090) dX12_waysOf_231 (by omega) ?_
                    have f76 := zah (j := (v49 + 3090).toNat) hS_s10 (zr (k := 55) (t2 := 104) hG ha rfl) (fun k => ⟨_, rfl, (axS_h _).1, (axS_h _).2.1⟩) (zlen hG (zr (k := 55) (t2 := 104) hG ha rfl) (n := 6695) rfl rfl) (show 0 ≤ v49 + 3090 by omega) (by omega) rfl
                    refine j_iald hx hG (zr (k := 55) (t2 := 104) hG ha rfl) (by decide) rfl (zlen hG (zr (k := 55) (t2 := 104) hG ha rfl) (n := 6695) rfl rfl) (by omega) (by omega) (j := (v49 + 3090).toNat) rfl (v := (s10 (gP G a 55) (v49 + 3090).toNat)) (by rw [(zFr_g hF_s28 (zr (k := 55) (t2 := 104) hG ha rfl) (by decide))]) dX12_waysOf_232 ?_
                    refine j_iast hx hG (zr (k := 27) (t2 := 84) hG ha rfl) (by decide) rfl (zlen hG (zr (k := 27) (t2 := 84) hG ha rfl) (n := 515) rfl rfl) (by omega) (by omega) (j := (v49).toNat) rfl dX12_waysOf_233 ?_
                    obtain ⟨s33, e_s33⟩ : ∃ z, z = zU s28 (gP G a 27) (v49).toNat ((s10 (gP G a 55) (v49 + 3090).toNat)) := ⟨_, rfl⟩
                    rw [← e_s33]
                    have hS_s33 : zSK G s33 := by rw [e_s33]; exact zSK_cq hS_s28 hS_s10 (zr (k := 27) (t2 := 84) hG ha rfl) (zr (k := 55) (t2 := 104) hG ha rfl) (fun _ => rfl) rfl (j2 := (v49 + 3090).toNat) (by exact congrArg (fun z => some (axS z)) (by omega)) (by have := (zlen hG (zr (k := 55) (t2 := 104) hG ha rfl) (n := 6695) rfl rfl); omega) rfl
                    refine j_iinc hx 3 [(6, .int (zI (v49 + 1))), (0, .ref a), (3, .int (zI 6)), (4, .long (zL w36))] dX12_waysOf_234 rfl (by omega) (by decide) rfl ?_
                    refine j_goto hx 206 dX12_waysOf_237 rfl ?_
                    exact j_sub [1, 2, 3, 0] [(0, .ref a), (3, .int (zI 6)), (4, .long (zL w36)), (6, .int (zI (v49 + 1)))] rfl (ih_c206_27 (v49 + 1) s33 (by omega) (by omega) hS_s33 (zFr_u (zFr_t zFr_rf hF_s28 (by decide)) e_s33 (zr (k := 27) (t2 := 84) hG ha rfl) (by decide)) (zEp_s hE3 e_s33 (by omega) (by omega) rfl))
              exact j_sub [1, 2, 3, 0] [(0, .ref a), (3, .int (zI 6)), (4, .long (zL w36)), (6, .int (zI 0))] rfl (c206_27 (2147483648 * 4) 0 s10 (by omega) (by omega) hS_s10 zFr_rf (zEp_0 (by omega)))
            refine j_icmp_ne hx 114 dX12_waysOf_89 rfl (by omega) ⟨by decide, by decide⟩ (fun h78 => ?_) (fun h78 => ?_)
            · skip
              refine j_iconst hx dX12_waysOf_114 ?_
              refine j_istore hx [(6, .int (zI 0)), (4, .long (zL 0)), (0, .ref a), (1, .int (zI x1)), (2, .int (zI x2)), (3, .int (zI 6))] dX12_waysOf_115 (by decide) rfl ?_
              have c117_34 : ∀ (m_c117_34 : Nat) (w79 : Int) (v80 : Int) (s35 : zS), 2147483648 - v80 < m_c117_34 → ((-9223372036854775808) ≤ w79 ∧ w79 ≤ 9223372036854775807) → (0 ≤ v80 ∧ v80 ≤ 3) → (zSK G s35) → (zFr [13, 84, 104] G s8 s35) → (s35 a 0 = s8 a 0) → (s35 a 3 = s8 a 3) → (s35 a 4 = s8 a 4) → (s35 a 5 = s8 a 5) → (s35 a 7 = s8 a 7) → (s35 a 21 = s8 a 21) → (s35 a 22 = s8 a 22) → (s35 a 23 = s8 a 23) → (s35 a 24 = s8 a 24) → (s35 a 38 = s8 a 38) → (s35 a 51 = s8 a 51) → (s35 a 52 = s8 a 52) → (zc (s35 (gP G a 27)) ≤ 60) → (s35 (gP G a 27) 488 ≤ 590013) → (zDp (s35 (gP G a 55))) → JJ X E 8 G s35 0 0 [(0, .ref a), (1, .int (zI x1)), (2, .int (zI x2)), (3, .int (zI 6)), (4, .long (zL w79)), (6, .int (zI v80))] 117 [] := by
                intro m_c117_34
                induction m_c117_34 with
                | zero => intro w79 v80 s35 hm_c117_34 fA36 fA37 hS_s35 hF_s35 fA40 fA41 fA42 fA43 fA44 fA45 fA46 fA47 fA48 fA49 fA50 fA51 fA52 fA53 fA54; exfalso; omega
                | succ m_c117_34 ih_c117_34 => 
                  intro w79 v80 s35 hm_c117_34 fA36 fA37 hS_s35 hF_s35 fA40 fA41 fA42 fA43 fA44 fA45 fA46 fA47 fA48 fA49 fA50 fA51 fA52 fA53 fA54
                  refine j_iload hx 5 dX12_waysOf_117 rfl ?_
                  refine j_aload_n hx 0 dX12_waysOf_119 rfl ?_
                  have f81 := zf hS_s35 ha (k := 24) rfl
                  refine g13_24 hx hG ha kf_RX12_189 rfl dX12_waysOf_120 ?_
                  refine j_icmp_ge hx 203 dX12_waysOf_123 rfl (by omega) (by omega) (fun h82 => ?_) (fun h82 => ?_)
                  · skip
                    have f83 := zf hS_s35 ha (k := 0) rfl
                    have f84 := zf hS_s35 ha (k := 3) rfl
                    have f85 := zf hS_s35 ha (k := 4) rfl
                    have f86 := zf hS_s35 ha (k := 5) rfl
                    have f87 := zf hS_s35 ha (k := 7) rfl
                    have f88 := zf hS_s35 ha (k := 21) rfl
                    have f89 := zf hS_s35 ha (k := 22) rfl
                    have f90 := zf hS_s35 ha (k := 23) rfl
                    have f91 := zf hS_s35 ha (k := 38) rfl
                    have f92 := zf hS_s35 ha (k := 51) rfl
                    have f93 := zf hS_s35 ha (k := 52) rfl
                    exact j_sub [0, 3, 4] [(0, .ref a), (3, .int (zI 6)), (4, .long (zL w79))] rfl (c203_9 w79 s35 (by omega) hS_s35 (zFr_t zFr_rf hF_s35 (by decide)) (by omega) (by omega) (by omega) (by omega) (by omega) (by omega) (by omega) (by omega) (by omega) (by omega) (by omega) (by omega) fA54)
                  · skip
                    refine j_iconst hx dX12_waysOf_126 ?_
                    refine j_istore hx [(7, .int (zI 0)), (0, .ref a), (1, .int (zI x1)), (2, .int (zI x2)), (3, .int (zI 6)), (4, .long (zL w79)), (6, .int (zI v80))] dX12_waysOf_127 (by decide) rfl ?_
                    have c129_55 : ∀ (m_c129_55 : Nat) (v94 : Int) (s56 : zS), 2147483648 - v94 < m_c129_55 → (0 ≤ v94 ∧ v94 ≤ 515) → (zSK G s56) → (zFr [84] G s35 s56) → (zEp (v94).toNat (s56 (gP G a 27)) (s35 (gP G a 55)) 3090) → JJ X E 8 G s56 0 0 [(0, .ref a), (1, .int (zI x1)), (2, .int (zI x2)), (3, .int (zI 6)), (4, .long (zL w79)), (6, .int (zI v80)), (7, .int (zI v94))] 129 [] := by
                      intro m_c129_55
                      induction m_c129_55 with
                      | zero => intro v94 s56 hm_c129_55 fA57 hS_s56 hF_s56 hE2; exfalso; omega
                      | succ m_c129_55 ih_c129_55 => 
                        intro v94 s56 hm_c129_55 fA57 hS_s56 hF_s56 hE2
                        refine j_iload hx 6 dX12_waysOf_129 rfl ?_
                        refine j_sipush hx dX12_waysOf_131 rfl ?_
                        refine j_icmp_ge hx 163 dX12_waysOf_134 rfl (by omega) ⟨by decide, by decide⟩ (fun h95 => ?_) (fun h95 => ?_)
                        · skip
                          have z96 := zEp_zc (L := 6) hE2 (by omega) fA54 (by decide)
                          refine j_aload_n hx 0 dX12_waysOf_163 rfl ?_
                          refine j_iload hx 5 dX12_waysOf_164 rfl ?_
                          have g97 : s56 a 0 = s35 a 0 := (by rw [(zFr_g hF_s56 ha (by decide))])
                          have f98 := zf hS_s35 ha (k := 0) rfl
                          have g99 : s56 a 3 = s35 a 3 := (by rw [(zFr_g hF_s56 ha (by decide))])
                          have f100 := zf hS_s35 ha (k := 3) rfl
                          have g101 : s56 a 4 = s35 a 4 := (by rw [(zFr_g hF_s56 ha (by decide))])
                          have f102 := zf hS_s35 ha (k := 4) rfl
                          have g103 : s56 a 5 = s35 a 5 := (by rw [(zFr_g hF_s56 ha (by decide))])
                          have f104 := zf hS_s35 ha (k := 5) rfl
                          have g105 : s56 a 7 = s35 a 7 := (by rw [(zFr_g hF_s56 ha (by decide))])
                          have f106 := zf hS_s35 ha (k := 7) rfl
                          have g107 : s56 a 21 = s35 a 21 := (by rw [(zFr_g hF_s56 ha (by decide))])
                          have f108 := zf hS_s35 ha (k := 21) rfl
                          have g109 : s56 a 22 = s35 a 22 := (by rw [(zFr_g hF_s56 ha (by decide))])
                          have f110 := zf hS_s35 ha (k := 22) rfl
                          have g111 : s56 a 23 = s35 a 23 := (by rw [(zFr_g hF_s56 ha (by decide))])
                          have f112 := zf hS_s35 ha (k := 23) rfl
                          have g113 : s56 a 24 = s35 a 24 := (by rw [(zFr_g hF_s56 ha (by decide))])
                          have g114 : s56 a 38 = s35 a 38 := (by rw [(zFr_g hF_s56 ha (by decide))])
                          have f115 := zf hS_s35 ha (k := 38) rfl
                          have g116 : s56 a 51 = s35 a 51 := (by rw [(zFr_g hF_s56 ha (by decide))])
                          have f117 := zf hS_s35 ha (k := 51) rfl
                          have g118 : s56 a 52 = s35 a 52 := (by rw [(zFr_g hF_s56 ha (by decide))])
                          have f119 := zf hS_s35 ha (k := 52) rfl
                          refine j_callV hx hG (c_X12_turnFor hst a v80) lk_RX12_453 ha (by decide) rfl rfl rfl rfl [.int (zI v80)] ⟨rfl, hG, hS_s56, ha, (by omega), (by omega), (by omega)⟩ rfl rfl ⟨by decide, by decide⟩ ⟨by decide, by decide⟩ (k2 := 0) (n2 := 0) rfl rfl (Nat.le_of_ble_eq_true rfl) dX12_waysOf_166 (kIM (fun v120 s61 hS_s61 hF_s61 q121 => ?_))
                          refine j_pop hx dX12_waysOf_169 rfl ?_
                          refine j_lload hx 4 dX12_waysOf_170 rfl ?_
                          refine j_aload_n hx 0 dX12_waysOf_172 rfl ?_
                          refine g13_17 hx hG ha kf_RX12_44 dX12_waysOf_173 ?_
                          refine j_iconst hx dX12_waysOf_176 ?_
                          refine j_iload hx 5 dX12_waysOf_177 rfl ?_
                          refine j_imul hx (r := 4 * v80) dX12_waysOf_179 rfl ?_
                          have f122 := zaI (j := (4 * v80).toNat) hS0 (zr (k := 17) (t2 := 80) hG ha rfl) rfl (zlen hG (zr (k := 17) (t2 := 80) hG ha rfl) (n := 12) rfl rfl) (show 0 ≤ 4 * v80 by omega) (by omega) rfl
                          refine j_iald hx hG (zr (k := 17) (t2 := 80) hG ha rfl) (by decide) rfl (zlen hG (zr (k := 17) (t2 := 80) hG ha rfl) (n := 12) rfl rfl) (by omega) (by omega) (j := (4 * v80).toNat) rfl (v := (s0 (gP G a 17) (4 * v80).toNat)) (by rw [(zFr_g hF_s61 (zr (k := 17) (t2 := 80) hG ha rfl) (by decide)), (zFr_g hF_s56 (zr (k := 17) (t2 := 80) hG ha rfl) (by decide)), (zFr_g hF_s35 (zr (k := 17) (t2 := 80) hG ha rfl) (by decide)), (zFr_g hF_s8 (zr (k := 17) (t2 := 80) hG ha rfl) (by decide)), (zFr_g hF_s2 (zr (k := 17) (t2 := 80) hG ha rfl) (by decide))]) dX12_waysOf_180 ?_
                          refine j_i2l hx dX12_waysOf_181 (by omega) ?_
                          refine j_aload_n hx 0 dX12_waysOf_182 rfl ?_
                          refine j_iload_n hx 1 dX12_waysOf_183 rfl ?_
                          refine j_iload_n hx 2 dX12_waysOf_184 rfl ?_
                          refine j_iconst hx dX12_waysOf_185 ?_
                          refine j_isub hx (r := x2 - 1) dX12_waysOf_186 rfl ?_
                          refine j_iload_n hx 3 dX12_waysOf_187 rfl ?_
                          refine j_iconst hx dX12_waysOf_188 ?_
                          refine j_iadd hx (r := 7) dX12_waysOf_189 (by omega) ?_
                          have f123 := zf hS_s61 ha (k := 0) rfl
                          have f124 := zf hS_s61 ha (k := 3) rfl
                          have f125 := zf hS_s61 ha (k := 4) rfl
                          have f126 := zf hS_s61 ha (k := 5) rfl
                          have f127 := zf hS_s61 ha (k := 7) rfl
                          have f128 := zf hS_s61 ha (k := 21) rfl
                          have f129 := zf hS_s61 ha (k := 22) rfl
                          have f130 := zf hS_s61 ha (k := 23) rfl
                          have f131 := zf hS_s61 ha (k := 24) rfl
                          have f132 := zf hS_s61 ha (k := 38) rfl
                          have f133 := zf hS_s61 ha (k := 51) rfl
                          have f134 := zf hS_s61 ha (k := 52) rfl
                          refine j_callV hx hG (c_X12_waysOf_7 hst a x1 (x2 - 1) 7) lk_RX12_487 ha (by decide) rfl rfl rfl rfl [.int (zI x1), .int (zI (x2 - 1)), .int (zI 7)] ⟨rfl, hG, hS_s61, ha, (by omega), (by omega), (by omega), (by omega), (by omega), ((by have q1 : s61 (gP G a 55) = s35 (gP G a 55) := (by rw [hF_s61 (gP G a 55) (by rw [(zr (k := 55) (t2 := 104) hG ha rfl)]; decide), hF_s56 (gP G a 55) (by rw [(zr (k := 55) (t2 := 104) hG ha rfl)]; decide)]); rw [q1]; exact fA54))⟩ rfl rfl ⟨by decide, by decide⟩ ⟨by decide, by decide⟩ (k2 := 0) (n2 := 0) rfl rfl (Nat.le_of_ble_eq_true rfl) dX12_waysOf_190 (kLM (fun v135 s62 hS_s62 hF_s62 q136 => ?_))
                          refine j_lmul hx dX12_waysOf_193 (fun w137 f138 f139 => ?_)
                          refine j_ladd hx dX12_waysOf_194 (fun w140 f141 f142 => ?_)
                          refine j_lstore hx [(4, .long (zL w140)), (0, .ref a), (1, .int (zI x1)), (2, .int (zI x2)), (3, .int (zI 6)), (6, .int (zI v80)), (7, .int (zI v94))] dX12_waysOf_195 (by decide) rfl ?_
                          refine j_iinc hx 5 [(6, .int (zI (v80 + 1))), (4, .long (zL w140)), (0, .ref a), (1, .int (zI x1)), (2, .int (zI x2)), (3, .int (zI 6)), (7, .int (zI v94))] dX12_waysOf_197 rfl (by omega) (by decide) rfl ?_
                          refine j_goto hx 117 dX12_waysOf_200 rfl ?_
                          have f143 := zf hS_s62 ha (k := 0) rfl
                          have f144 := zf hS_s62 ha (k := 3) rfl
                          have f145 := zf hS_s62 ha (k := 4) rfl
                          have f146 := zf hS_s62 ha (k := 5) rfl
                          have f147 := zf hS_s62 ha (k := 7) rfl
                          have f148 := zf hS_s62 ha (k := 21) rfl
                          have f149 := zf hS_s62 ha (k := 22) rfl
                          have f150 := zf hS_s62 ha (k := 23) rfl
                          have f151 := zf hS_s62 ha (k := 24) rfl
                          have f152 := zf hS_s62 ha (k := 38) rfl
                          have f153 := zf hS_s62 ha (k := 51) rfl
                          have f154 := zf hS_s62 ha (k := 52) rfl
                          exact j_sub [2, 3, 4, 5, 1, 0] [(0, .ref a), (1, .int (zI x1)), (2, .int (zI x2)), (3, .int (zI 6)), (4, .long (zL w140)), (6, .int (zI (v80 + 1)))] rfl (ih_c117_34 w140 (v80 + 1) s62 (by omega) (by omega) (by omega) hS_s62 (zFr_t (zFr_t (zFr_t (zFr_t zFr_rf hF_s35 (by decide)) hF_s56 (by decide)) hF_s61 (by decide)) hF_s62 (by decide)) (by omega) (by omega) (by omega) (by omega) (by omega) (by omega) (by omega) (by omega) (by omega) (by omega) (by omega) (by omega) (by omega) (by omega) q136.2.2.2.1)
                        · skip
                          refine j_aload_n hx 0 dX12_waysOf_137 rfl ?_
                          refine g13_27 hx hG ha kf_RX12_56 dX12_waysOf_138 ?_
                          refine j_iload hx 6 dX12_waysOf_141 rfl ?_
                          refine j_aload_n hx 0 dX12_waysOf_143 rfl ?_
                          refine g13_55 hx hG ha kf_RX12_118 dX12_waysOf_144 ?_
                          refine j_sipush hx dX12_waysOf_147 rfl ?_
                          refine j_iload_n hx 3 dX12_waysOf_150 rfl ?_
                          refine j_imul hx (r := 3090) dX12_waysOf_151 (by omega) ?_
                          refine j_iload hx 6 dX12_waysOf_152 rfl ?_
                          refine j_iadd hx (r := v94 + 3090) dX12_waysOf_154 (by omega) ?_
                          have f155 := zah (j := (v94 + 3090).toNat) hS_s35 (zr (k := 55) (t2 := 104) hG ha rfl) (fun k => ⟨_, rfl, (axS_h _).1, (axS_h _).2.1⟩) (zlen hG (zr (k := 55) (t2 := 104) hG ha rfl) (n := 6695) rfl rfl) (show 0 ≤ v94 + 3090 by omega) (by omega) rfl
                          refine j_iald hx hG (zr (k := 55) (t2 := 104) hG ha rfl) (by decide) rfl (zlen hG (zr (k := 55) (t2 := 104) hG ha rfl) (n := 6695) rfl rfl) (by omega) (by omega) (j := (v94 + 3090).toNat) rfl (v := (s35 (gP G a 55) (v94 + 3090).toNat)) (by rw [(zFr_g hF_s56 (zr (k := 55) (t2 := 104) hG ha rfl) (by decide))]) dX12_waysOf_155 ?_
                          refine j_iast hx hG (zr (k := 27) (t2 := 84) hG ha rfl) (by decide) rfl (zlen hG (zr (k := 27) (t2 := 84) hG ha rfl) (n := 515) rfl rfl) (by omega) (by omega) (j := (v94).toNat) rfl dX12_waysOf_156 ?_
                          obtain ⟨s63, e_s63⟩ : ∃ z, z = zU s56 (gP G a 27) (v94).toNat ((s35 (gP G a 55) (v94 + 3090).toNat)) := ⟨_, rfl⟩
                          rw [← e_s63]
                          have hS_s63 : zSK G s63 := by rw [e_s63]; exact zSK_cq hS_s56 hS_s35 (zr (k := 27) (t2 := 84) hG ha rfl) (zr (k := 55) (t2 := 104) hG ha rfl) (fun _ => rfl) rfl (j2 := (v94 + 3090).toNat) (by exact congrArg (fun z => some (axS z)) (by omega)) (by have := (zlen hG (zr (k := 55) (t2 := 104) hG ha rfl) (n := 6695) rfl rfl); omega) rfl
                          refine j_iinc hx 6 [(7, .int (zI (v94 + 1))), (0, .ref a), (1, .int (zI x1)), (2, .int (zI x2)), (3, .int (zI 6)), (4, .long (zL w79)), (6, .int (zI v80))] dX12_waysOf_157 rfl (by omega) (by decide) rfl ?_
                          refine j_goto hx 129 dX12_waysOf_160 rfl ?_
                          exact j_sub [1, 2, 3, 4, 5, 6, 0] [(0, .ref a), (1, .int (zI x1)), (2, .int (zI x2)), (3, .int (zI 6)), (4, .long (zL w79)), (6, .int (zI v80)), (7, .int (zI (v94 + 1)))] rfl (ih_c129_55 (v94 + 1) s63 (by omega) (by omega) hS_s63 (zFr_u (zFr_t zFr_rf hF_s56 (by decide)) e_s63 (zr (k := 27) (t2 := 84) hG ha rfl) (by decide)) (zEp_s hE2 e_s63 (by omega) (by omega) rfl))
                    exact j_sub [1, 2, 3, 4, 5, 6, 0] [(0, .ref a), (1, .int (zI x1)), (2, .int (zI x2)), (3, .int (zI 6)), (4, .long (zL w79)), (6, .int (zI v80)), (7, .int (zI 0))] rfl (c129_55 (2147483648 * 4) 0 s35 (by omega) (by omega) hS_s35 zFr_rf (zEp_0 (by omega)))
              exact j_sub [2, 3, 4, 5, 1, 0] [(0, .ref a), (1, .int (zI x1)), (2, .int (zI x2)), (3, .int (zI 6)), (4, .long (zL 0)), (6, .int (zI 0))] rfl (c117_34 (2147483648 * 4) 0 0 s8 (by omega) (by omega) (by omega) hS_s8 zFr_rf (by omega) (by omega) (by omega) (by omega) (by omega) (by omega) (by omega) (by omega) (by omega) (by omega) (by omega) (by omega) (by omega) (by omega) (by have q1 : s8 (gP G a 55) = s2 (gP G a 55) := (by rw [hF_s8 (gP G a 55) (by rw [(zr (k := 55) (t2 := 104) hG ha rfl)]; decide)]); rw [q1]; exact hP4))
            · skip
              refine j_aload_n hx 1 dX12_waysOf_92 rfl ?_
              refine j_callV hx hG (c_X12_quickness hst a) lk_RX12_484 ha (by decide) rfl rfl rfl rfl [] ⟨rfl, hG, hS_s8, ha⟩ rfl rfl ⟨by decide, by decide⟩ ⟨by decide, by decide⟩ (k2 := 0) (n2 := 0) rfl rfl (Nat.le_of_ble_eq_true rfl) dX12_waysOf_93 (kIP (fun v157 q158 => ?_))
              refine j_i2l hx dX12_waysOf_96 (by omega) ?_
              refine j_aload_n hx 1 dX12_waysOf_97 rfl ?_
              refine j_iload_n hx 2 dX12_waysOf_98 rfl ?_
              refine j_iload_n hx 3 dX12_waysOf_99 rfl ?_
              refine j_iconst hx dX12_waysOf_100 ?_
              refine j_isub hx (r := x2 - 1) dX12_waysOf_101 rfl ?_
              refine j_iload_n hx 4 dX12_waysOf_102 rfl ?_
              refine j_iconst hx dX12_waysOf_103 ?_
              refine j_iadd hx (r := 7) dX12_waysOf_104 (by omega) ?_
              refine j_callV hx hG (c_X12_waysOf_7 hst a x1 (x2 - 1) 7) lk_RX12_487 ha (by decide) rfl rfl rfl rfl [.int (zI x1), .int (zI (x2 - 1)), .int (zI 7)] ⟨rfl, hG, hS_s8, ha, (by omega), (by omega), (by omega), (by omega), (by omega), ((by have q1 : s8 (gP G a 55) = s2 (gP G a 55) := (by rw [hF_s8 (gP G a 55) (by rw [(zr (k := 55) (t2 := 104) hG ha rfl)]; decide)]); rw [q1]; exact hP4))⟩ rfl rfl ⟨by decide, by decide⟩ ⟨by decide, by decide⟩ (k2 := 0) (n2 := 0) rfl rfl (Nat.le_of_ble_eq_true rfl) dX12_waysOf_105 (kLM (fun v159 s64 hS_s64 hF_s64 q160 => ?_))
              refine j_lmul hx dX12_waysOf_108 (fun w161 f162 f163 => ?_)
              refine j_lstore hx [(4, .long (zL w161)), (0, .ref a), (1, .int (zI x1)), (2, .int (zI x2)), (3, .int (zI 6))] dX12_waysOf_109 (by decide) rfl ?_
              refine j_goto hx 203 dX12_waysOf_111 rfl ?_
              have f164 := zf hS_s64 ha (k := 0) rfl
              have f165 := zf hS_s64 ha (k := 3) rfl
              have f166 := zf hS_s64 ha (k := 4) rfl
              have f167 := zf hS_s64 ha (k := 5) rfl
              have f168 := zf hS_s64 ha (k := 7) rfl
              have f169 := zf hS_s64 ha (k := 21) rfl
              have f170 := zf hS_s64 ha (k := 22) rfl
              have f171 := zf hS_s64 ha (k := 23) rfl
              have f172 := zf hS_s64 ha (k := 24) rfl
              have f173 := zf hS_s64 ha (k := 38) rfl
              have f174 := zf hS_s64 ha (k := 51) rfl
              have f175 := zf hS_s64 ha (k := 52) rfl
              exact j_sub [1, 4, 0] [(0, .ref a), (3, .int (zI 6)), (4, .long (zL w161))] rfl (c203_9 w161 s64 (by omega) hS_s64 (zFr_t zFr_rf hF_s64 (by decide)) (by omega) (by omega) (by omega) (by omega) (by omega) (by omega) (by omega) (by omega) (by omega) (by omega) (by omega) (by omega) q160.2.2.2.1)
          · skip
            refine j_aload_n hx 1 dX12_waysOf_66 rfl ?_
            refine j_callV hx hG (c_X12_quickness hst a) lk_RX12_484 ha (by decide) rfl rfl rfl rfl [] ⟨rfl, hG, hS_s8, ha⟩ rfl rfl ⟨by decide, by decide⟩ ⟨by decide, by decide⟩ (k2 := 0) (n2 := 0) rfl rfl (Nat.le_of_ble_eq_true rfl) dX12_waysOf_67 (kIP (fun v176 q177 => ?_))
            refine j_i2l hx dX12_waysOf_70 (by omega) ?_
            refine j_aload_n hx 1 dX12_waysOf_71 rfl ?_
            refine j_iload_n hx 2 dX12_waysOf_72 rfl ?_
            refine j_iload_n hx 3 dX12_waysOf_73 rfl ?_
            refine j_iconst hx dX12_waysOf_74 ?_
            refine j_isub hx (r := x2 - 1) dX12_waysOf_75 rfl ?_
            refine j_iload_n hx 4 dX12_waysOf_76 rfl ?_
            refine j_iconst hx dX12_waysOf_77 ?_
            refine j_iadd hx (r := 7) dX12_waysOf_78 (by omega) ?_
            have f178 := zf hS_s8 ha (k := 0) rfl
            have f179 := zf hS_s8 ha (k := 3) rfl
            have f180 := zf hS_s8 ha (k := 4) rfl
            have f181 := zf hS_s8 ha (k := 5) rfl
            have f182 := zf hS_s8 ha (k := 7) rfl
            have f183 := zf hS_s8 ha (k := 21) rfl
            have f184 := zf hS_s8 ha (k := 22) rfl
            have f185 := zf hS_s8 ha (k := 23) rfl
            have f186 := zf hS_s8 ha (k := 24) rfl
            have f187 := zf hS_s8 ha (k := 38) rfl
            have f188 := zf hS_s8 ha (k := 51) rfl
            have f189 := zf hS_s8 ha (k := 52) rfl
            refine j_callV hx hG (c_X12_waysOf_7 hst a x1 (x2 - 1) 7) lk_RX12_487 ha (by decide) rfl rfl rfl rfl [.int (zI x1), .int (zI (x2 - 1)), .int (zI 7)] ⟨rfl, hG, hS_s8, ha, (by omega), (by omega), (by omega), (by omega), (by omega), ((by have q1 : s8 (gP G a 55) = s2 (gP G a 55) := (by rw [hF_s8 (gP G a 55) (by rw [(zr (k := 55) (t2 := 104) hG ha rfl)]; decide)]); rw [q1]; exact hP4))⟩ rfl rfl ⟨by decide, by decide⟩ ⟨by decide, by decide⟩ (k2 := 0) (n2 := 0) rfl rfl (Nat.le_of_ble_eq_true rfl) dX12_waysOf_79 (kLM (fun v190 s65 hS_s65 hF_s65 q191 => ?_))
            refine j_lmul hx dX12_waysOf_82 (fun w192 f193 f194 => ?_)
            have f195 := zf hS_s65 ha (k := 0) rfl
            have f196 := zf hS_s65 ha (k := 3) rfl
            have f197 := zf hS_s65 ha (k := 4) rfl
            have f198 := zf hS_s65 ha (k := 5) rfl
            have f199 := zf hS_s65 ha (k := 7) rfl
            have f200 := zf hS_s65 ha (k := 21) rfl
            have f201 := zf hS_s65 ha (k := 22) rfl
            have f202 := zf hS_s65 ha (k := 23) rfl
            have f203 := zf hS_s65 ha (k := 24) rfl
            have f204 := zf hS_s65 ha (k := 38) rfl
            have f205 := zf hS_s65 ha (k := 51) rfl
            have f206 := zf hS_s65 ha (k := 52) rfl
            exact j_lret hx hq rfl (by decide) (by decide) dX12_waysOf_83 ⟨w192, rfl, rfl, hS_s65, (zFr_t (zFr_t (zFr_t zFr_rf hF_s2 (by decide)) hF_s8 (by decide)) hF_s65 (by decide)), ⟨(by omega), by omega, by omega, q191.2.2.2.1, by omega, by omega, by omega, by omega, by omega, by omega, by omega, by omega, by omega, by omega, by omega, by omega⟩⟩
        · skip
          refine j_aload_n hx 0 dX12_waysOf_29 rfl ?_
          refine g13_55 hx hG ha kf_RX12_118 dX12_waysOf_30 ?_
          refine j_sipush hx dX12_waysOf_33 rfl ?_
          refine j_iload_n hx 3 dX12_waysOf_36 rfl ?_
          refine j_imul hx (r := 3090) dX12_waysOf_37 (by omega) ?_
          refine j_iload hx 4 dX12_waysOf_38 rfl ?_
          refine j_iadd hx (r := v2 + 3090) dX12_waysOf_40 (by omega) ?_
          refine j_aload_n hx 0 dX12_waysOf_41 rfl ?_
          refine g13_27 hx hG ha kf_RX12_56 dX12_waysOf_42 ?_
          refine j_iload hx 4 dX12_waysOf_45 rfl ?_
          have f207 := zah (j := (v2).toNat) hS0 (zr (k := 27) (t2 := 84) hG ha rfl) (fun k => ⟨_, rfl, (axS_h _).1, (axS_h _).2.1⟩) (zlen hG (zr (k := 27) (t2 := 84) hG ha rfl) (n := 515) rfl rfl) (show 0 ≤ v2 by omega) (by omega) rfl
          refine j_iald hx hG (zr (k := 27) (t2 := 84) hG ha rfl) (by decide) rfl (zlen hG (zr (k := 27) (t2 := 84) hG ha rfl) (n := 515) rfl rfl) (by omega) (by omega) (j := (v2).toNat) rfl (v := (s0 (gP G a 27) (v2).toNat)) (by rw [(zFr_g hF_s2 (zr (k := 27) (t2 := 84) hG ha rfl) (by decide))]) dX12_waysOf_47 ?_
          refine j_iast hx hG (zr (k := 55) (t2 := 104) hG ha rfl) (by decide) rfl (zlen hG (zr (k := 55) (t2 := 104) hG ha rfl) (n := 6695) rfl rfl) (by omega) (by omega) (j := (v2 + 3090).toNat) rfl dX12_waysOf_48 ?_
          obtain ⟨s66, e_s66⟩ : ∃ z, z = zU s2 (gP G a 55) (v2 + 3090).toNat ((s0 (gP G a 27) (v2).toNat)) := ⟨_, rfl⟩
          rw [← e_s66]
          have hS_s66 : zSK G s66 := by rw [e_s66]; exact zSK_cq hS_s2 hS0 (zr (k := 55) (t2 := 104) hG ha rfl) (zr (k := 27) (t2 := 84) hG ha rfl) (fun _ => rfl) rfl (j2 := (v2).toNat) (by exact congrArg (fun z => some (axS z)) (by omega)) (by have := (zlen hG (zr (k := 27) (t2 := 84) hG ha rfl) (n := 515) rfl rfl); omega) rfl
          refine j_iinc hx 4 [(4, .int (zI (v2 + 1))), (0, .ref a), (1, .int (zI x1)), (2, .int (zI x2)), (3, .int (zI 6))] dX12_waysOf_49 rfl (by omega) (by decide) rfl ?_
          refine j_goto hx 21 dX12_waysOf_52 rfl ?_
          exact j_sub [1, 2, 3, 4, 0] [(0, .ref a), (1, .int (zI x1)), (2, .int (zI x2)), (3, .int (zI 6)), (4, .int (zI (v2 + 1)))] rfl (ih_c21_1 (v2 + 1) s66 (by omega) (by omega) hS_s66 (zFr_u (zFr_t zFr_rf hF_s2 (by decide)) e_s66 (zr (k := 55) (t2 := 104) hG ha rfl) (by decide)) (zDx_s hD1 e_s66 (by omega)) (zEo_s hE1 e_s66 (by omega) (by omega) rfl))
    exact j_sub [1, 2, 3, 4, 0] [(0, .ref a), (1, .int (zI x1)), (2, .int (zI x2)), (3, .int (zI 6)), (4, .int (zI 0))] rfl (c21_1 (2147483648 * 4) 0 s0 (by omega) (by omega) hS0 zFr_rf (zDx_of e2) (zEo_0 (by omega)))
  · skip
    refine j_aload_n hx 0 dX12_waysOf_4 rfl ?_
    refine j_iload_n hx 1 dX12_waysOf_5 rfl ?_
    refine j_callV hx hG (c_X12_hasMost hst a x1) lk_RX12_481 ha (by decide) rfl rfl rfl rfl [.int (zI x1)] ⟨rfl, hG, hS0, ha, (by omega)⟩ rfl rfl ⟨by decide, by decide⟩ ⟨by decide, by decide⟩ (k2 := 0) (n2 := 0) rfl rfl (Nat.le_of_ble_eq_true rfl) dX12_waysOf_6 (kIP (fun v208 q209 => ?_))
    refine j_if_eq hx 16 dX12_waysOf_9 rfl (by omega) (fun h210 => ?_) (fun h210 => ?_)
    · skip
      refine j_lconst hx dX12_waysOf_16 ?_
      show JJ X E 8 G s0 0 0 [(0, .ref a), (1, .int (zI x1)), (2, .int (zI x2)), (3, .int (zI 6))] 17 [.long (zL 0)]
      have f211 := zf hS0 ha (k := 0) rfl
      have f212 := zf hS0 ha (k := 3) rfl
      have f213 := zf hS0 ha (k := 4) rfl
      have f214 := zf hS0 ha (k := 5) rfl
      have f215 := zf hS0 ha (k := 7) rfl
      have f216 := zf hS0 ha (k := 21) rfl
      have f217 := zf hS0 ha (k := 22) rfl
      have f218 := zf hS0 ha (k := 23) rfl
      have f219 := zf hS0 ha (k := 24) rfl
      have f220 := zf hS0 ha (k := 38) rfl
      have f221 := zf hS0 ha (k := 51) rfl
      have f222 := zf hS0 ha (k := 52) rfl
      exact j_lret hx hq rfl (by decide) (by decide) dX12_waysOf_17 ⟨0, rfl, rfl, hS0, zFr_rf, ⟨(by omega), by omega, by omega, e2, by omega, by omega, by omega, by omega, by omega, by omega, by omega, by omega, by omega, by omega, by omega, by omega⟩⟩
    · skip
      refine j_lconst hx dX12_waysOf_12 ?_
      show JJ X E 8 G s0 0 0 [(0, .ref a), (1, .int (zI x1)), (2, .int (zI x2)), (3, .int (zI 6))] 13 [.long (zL 1)]
      refine j_goto hx 17 dX12_waysOf_13 rfl ?_
      have f223 := zf hS0 ha (k := 0) rfl
      have f224 := zf hS0 ha (k := 3) rfl
      have f225 := zf hS0 ha (k := 4) rfl
      have f226 := zf hS0 ha (k := 5) rfl
      have f227 := zf hS0 ha (k := 7) rfl
      have f228 := zf hS0 ha (k := 21) rfl
      have f229 := zf hS0 ha (k := 22) rfl
      have f230 := zf hS0 ha (k := 23) rfl
      have f231 := zf hS0 ha (k := 24) rfl
      have f232 := zf hS0 ha (k := 38) rfl
      have f233 := zf hS0 ha (k := 51) rfl
      have f234 := zf hS0 ha (k := 52) rfl
      exact j_lret hx hq rfl (by decide) (by decide) dX12_waysOf_17 ⟨1, rfl, rfl, hS0, zFr_rf, ⟨(by omega), by omega, by omega, e2, by omega, by omega, by omega, by omega, by omega, by omega, by omega, by omega, by omega, by omega, by omega, by omega⟩⟩

set_option maxHeartbeats 1200000 in
set_option maxRecDepth 20000 in
theorem c_X12_waysOf_5 {E : zE} {l : Launch} (hst : l.stackTraces = false) (a : Nat) (x1 : Int) (x2 : Int) (x3 : Int) : Con E l yX12_waysOf cX12_waysOf 8 (some .long) { frames := 11, cells := 0, slots := 0, locals := 280 } (fun G s vs => vs = [.ref a, .int (zI x1), .int (zI x2), .int (zI x3)] ∧ zGK G ∧ zSK G s ∧ (gT G a = 13) ∧ (0 ≤ x1 ∧ x1 ≤ 2) ∧ (0 ≤ x2 ∧ x2 ≤ 7) ∧ (5 ≤ x3 ∧ x3 ≤ 5) ∧ (zc (s (gP G a 27)) ≤ 60) ∧ (s (gP G a 27) 488 ≤ 590005) ∧ (zDp (s (gP G a 55)))) (fun G s _ => pL (fun r G2 s2 => G2 = G ∧ zSK G s2 ∧ zFr [13, 84, 104] G s s2 ∧ ((-9223372036854775808) ≤ r ∧ r ≤ 9223372036854775807) ∧ zc (s2 (gP G a 27)) ≤ 60 ∧ s2 (gP G a 27) 488 ≤ 590013 ∧ zDp (s2 (gP G a 55)) ∧ s2 a 0 = s a 0 ∧ s2 a 3 = s a 3 ∧ s2 a 4 = s a 4 ∧ s2 a 5 = s a 5 ∧ s2 a 7 = s a 7 ∧ s2 a 21 = s a 21 ∧ s2 a 22 = s a 22 ∧ s2 a 23 = s a 23 ∧ s2 a 24 = s a 24 ∧ s2 a 38 = s a 38 ∧ s2 a 51 = s a 51 ∧ s2 a 52 = s a 52)) := by
  refine Con.mk hst (by decide) (fun G s vs h => by rw [h.1]; exact Nat.le_of_ble_eq_true rfl) ?_
  rintro X G s0 vs ⟨rfl, hG, hS0, ha, hx1, hx2, hx3, e0, e1, e2⟩ rfl hx hq
  obtain rfl : x3 = 5 := by omega
  show JJ X E 8 G s0 0 0 [(0, .ref a), (1, .int (zI x1)), (2, .int (zI x2)), (3, .int (zI 5))] 0 []
  refine j_iload_n hx 2 dX12_waysOf_0 rfl ?_
  refine j_if_ne hx 18 dX12_waysOf_1 rfl (by omega) (fun h1 => ?_) (fun h1 => ?_)
  · skip
    refine j_iconst hx dX12_waysOf_18 ?_
    refine j_istore hx [(4, .int (zI 0)), (0, .ref a), (1, .int (zI x1)), (2, .int (zI x2)), (3, .int (zI 5))] dX12_waysOf_19 (by decide) rfl ?_
    have c21_1 : ∀ (m_c21_1 : Nat) (v2 : Int) (s2 : zS), 2147483648 - v2 < m_c21_1 → (0 ≤ v2 ∧ v2 ≤ 515) → (zSK G s2) → (zFr [104] G s0 s2) → (zDx 5 (s2 (gP G a 55))) → (zEo (v2).toNat (s2 (gP G a 55)) (s0 (gP G a 27)) 2575) → JJ X E 8 G s2 0 0 [(0, .ref a), (1, .int (zI x1)), (2, .int (zI x2)), (3, .int (zI 5)), (4, .int (zI v2))] 21 [] := by
      intro m_c21_1
      induction m_c21_1 with
      | zero => intro v2 s2 hm_c21_1 fA3 hS_s2 hF_s2 hD1 hE1; exfalso; omega
      | succ m_c21_1 ih_c21_1 => 
        intro v2 s2 hm_c21_1 fA3 hS_s2 hF_s2 hD1 hE1
        refine j_iload hx 4 dX12_waysOf_21 rfl ?_
        refine j_sipush hx dX12_waysOf_23 rfl ?_
        refine j_icmp_ge hx 55 dX12_waysOf_26 rfl (by omega) ⟨by decide, by decide⟩ (fun h3 => ?_) (fun h3 => ?_)
        · skip
          have hP4 : zDp (s2 (gP G a 55)) := zDp_in (L := 5) hD1 hE1 (by omega) (by omega) (by omega)
          refine j_lconst hx dX12_waysOf_55 ?_
          show JJ X E 8 G s2 0 0 [(0, .ref a), (1, .int (zI x1)), (2, .int (zI x2)), (3, .int (zI 5)), (4, .int (zI v2))] 56 [.long (zL 0)]
          refine j_lstore hx [(4, .long (zL 0)), (0, .ref a), (1, .int (zI x1)), (2, .int (zI x2)), (3, .int (zI 5))] dX12_waysOf_56 (by decide) rfl ?_
          refine j_aload_n hx 1 dX12_waysOf_58 rfl ?_
          refine j_iconst hx dX12_waysOf_59 ?_
          have g5 : zc (s2 (gP G a 27)) = zc (s0 (gP G a 27)) := by rw [hF_s2 (gP G a 27) (by rw [(zr (k := 27) (t2 := 84) hG ha rfl)]; decide)]
          have g6 : s2 (gP G a 27) 488 = s0 (gP G a 27) 488 := (by rw [(zFr_g hF_s2 (zr (k := 27) (t2 := 84) hG ha rfl) (by decide))])
          have g7 : s2 a 0 = s0 a 0 := (by rw [(zFr_g hF_s2 ha (by decide))])
          have f8 := zf hS0 ha (k := 0) rfl
          have g9 : s2 a 3 = s0 a 3 := (by rw [(zFr_g hF_s2 ha (by decide))])
          have f10 := zf hS0 ha (k := 3) rfl
          have g11 : s2 a 4 = s0 a 4 := (by rw [(zFr_g hF_s2 ha (by decide))])
          have f12 := zf hS0 ha (k := 4) rfl
          have g13 : s2 a 5 = s0 a 5 := (by rw [(zFr_g hF_s2 ha (by decide))])
          have f14 := zf hS0 ha (k := 5) rfl
          have g15 : s2 a 7 = s0 a 7 := (by rw [(zFr_g hF_s2 ha (by decide))])
          have f16 := zf hS0 ha (k := 7) rfl
          have g17 : s2 a 21 = s0 a 21 := (by rw [(zFr_g hF_s2 ha (by decide))])
          have f18 := zf hS0 ha (k := 21) rfl
          have g19 : s2 a 22 = s0 a 22 := (by rw [(zFr_g hF_s2 ha (by decide))])
          have f20 := zf hS0 ha (k := 22) rfl
          have g21 : s2 a 23 = s0 a 23 := (by rw [(zFr_g hF_s2 ha (by decide))])
          have f22 := zf hS0 ha (k := 23) rfl
          have g23 : s2 a 24 = s0 a 24 := (by rw [(zFr_g hF_s2 ha (by decide))])
          have f24 := zf hS0 ha (k := 24) rfl
          have g25 : s2 a 38 = s0 a 38 := (by rw [(zFr_g hF_s2 ha (by decide))])
          have f26 := zf hS0 ha (k := 38) rfl
          have g27 : s2 a 51 = s0 a 51 := (by rw [(zFr_g hF_s2 ha (by decide))])
          have f28 := zf hS0 ha (k := 51) rfl
          have g29 : s2 a 52 = s0 a 52 := (by rw [(zFr_g hF_s2 ha (by decide))])
          have f30 := zf hS0 ha (k := 52) rfl
          refine j_callV hx hG (c_X12_turnFor hst a (-1)) lk_RX12_453 ha (by decide) rfl rfl rfl rfl [.int (zI (-1))] ⟨rfl, hG, hS_s2, ha, (by omega), (by omega), (by omega)⟩ rfl rfl ⟨by decide, by decide⟩ ⟨by decide, by decide⟩ (k2 := 0) (n2 := 0) rfl rfl (Nat.le_of_ble_eq_true rfl) dX12_waysOf_60 (kIM (fun v31 s8 hS_s8 hF_s8 q32 => ?_))
          refine j_if_ne hx 84 dX12_waysOf_63 rfl (by omega) (fun h33 => ?_) (fun h33 => ?_)
          · skip
            refine j_aload_n hx 1 dX12_waysOf_84 rfl ?_
            refine j_callV hx hG (c_X12_alikes hst a) lk_RX12_343 ha (by decide) rfl rfl rfl rfl [] ⟨rfl, hG, hS_s8, ha⟩ rfl rfl ⟨by decide, by decide⟩ ⟨by decide, by decide⟩ (k2 := 0) (n2 := 0) rfl rfl (Nat.le_of_ble_eq_true rfl) dX12_waysOf_85 (kIP (fun v34 q35 => ?_))
            refine j_iconst hx dX12_waysOf_88 ?_
            have f37 := zf hS_s8 ha (k := 0) rfl
            have f38 := zf hS_s8 ha (k := 3) rfl
            have f39 := zf hS_s8 ha (k := 4) rfl
            have f40 := zf hS_s8 ha (k := 5) rfl
            have f41 := zf hS_s8 ha (k := 7) rfl
            have f42 := zf hS_s8 ha (k := 21) rfl
            have f43 := zf hS_s8 ha (k := 22) rfl
            have f44 := zf hS_s8 ha (k := 23) rfl
            have f45 := zf hS_s8 ha (k := 24) rfl
            have f46 := zf hS_s8 ha (k := 38) rfl
            have f47 := zf hS_s8 ha (k := 51) rfl
            have f48 := zf hS_s8 ha (k := 52) rfl
            have c203_9 : ∀ (w36 : Int) (s10 : zS), ((-9223372036854775808) ≤ w36 ∧ w36 ≤ 9223372036854775807) → (zSK G s10) → (zFr [13, 84, 104] G s8 s10) → (s10 a 0 = s8 a 0) → (s10 a 3 = s8 a 3) → (s10 a 4 = s8 a 4) → (s10 a 5 = s8 a 5) → (s10 a 7 = s8 a 7) → (s10 a 21 = s8 a 21) → (s10 a 22 = s8 a 22) → (s10 a 23 = s8 a 23) → (s10 a 24 = s8 a 24) → (s10 a 38 = s8 a 38) → (s10 a 51 = s8 a 51) → (s10 a 52 = s8 a 52) → (zDp (s10 (gP G a 55))) → JJ X E 8 G s10 0 0 [(0, .ref a), (3, .int (zI 5)), (4, .long (zL w36))] 203 [] := by
              intro w36 s10 fA11 hS_s10 hF_s10 fA14 fA15 fA16 fA17 fA18 fA19 fA20 fA21 fA22 fA23 fA24 fA25 fA26
              refine j_iconst hx dX12_waysOf_203 ?_
              refine j_istore hx [(6, .int (zI 0)), (0, .ref a), (3, .int (zI 5)), (4, .long (zL w36))] dX12_waysOf_204 (by decide) rfl ?_
              have c206_27 : ∀ (m_c206_27 : Nat) (v49 : Int) (s28 : zS), 2147483648 - v49 < m_c206_27 → (0 ≤ v49 ∧ v49 ≤ 515) → (zSK G s28) → (zFr [84] G s10 s28) → (zEp (v49).toNat (s28 (gP G a 27)) (s10 (gP G a 55)) 2575) → JJ X E 8 G s28 0 0 [(0, .ref a), (3, .int (zI 5)), (4, .long (zL w36)), (6, .int (zI v49))] 206 [] := by
                intro m_c206_27
                induction m_c206_27 with
                | zero => intro v49 s28 hm_c206_27 fA29 hS_s28 hF_s28 hE3; exfalso; omega
                | succ m_c206_27 ih_c206_27 => 
                  intro v49 s28 hm_c206_27 fA29 hS_s28 hF_s28 hE3
                  refine j_iload hx 3 dX12_waysOf_206 rfl ?_
                  refine j_sipush hx dX12_waysOf_208 rfl ?_
                  refine j_icmp_ge hx 240 dX12_waysOf_211 rfl (by omega) ⟨by decide, by decide⟩ (fun h50 => ?_) (fun h50 => ?_)
                  · skip
                    have z51 := zEp_zc (L := 5) hE3 (by omega) fA26 (by decide)
                    refine j_lload hx 2 dX12_waysOf_240 rfl ?_
                    have g52 : s28 a 0 = s10 a 0 := (by rw [(zFr_g hF_s28 ha (by decide))])
                    have f53 := zf hS_s10 ha (k := 0) rfl
                    have g54 : s28 a 3 = s10 a 3 := (by rw [(zFr_g hF_s28 ha (by decide))])
                    have f55 := zf hS_s10 ha (k := 3) rfl
                    have g56 : s28 a 4 = s10 a 4 := (by rw [(zFr_g hF_s28 ha (by decide))])
                    have f57 := zf hS_s10 ha (k := 4) rfl
                    have g58 : s28 a 5 = s10 a 5 := (by rw [(zFr_g hF_s28 ha (by decide))])
                    have f59 := zf hS_s10 ha (k := 5) rfl
                    have g60 : s28 a 7 = s10 a 7 := (by rw [(zFr_g hF_s28 ha (by decide))])
                    have f61 := zf hS_s10 ha (k := 7) rfl
                    have g62 : s28 a 21 = s10 a 21 := (by rw [(zFr_g hF_s28 ha (by decide))])
                    have f63 := zf hS_s10 ha (k := 21) rfl
                    have g64 : s28 a 22 = s10 a 22 := (by rw [(zFr_g hF_s28 ha (by decide))])
                    have f65 := zf hS_s10 ha (k := 22) rfl
                    have g66 : s28 a 23 = s10 a 23 := (by rw [(zFr_g hF_s28 ha (by decide))])
                    have f67 := zf hS_s10 ha (k := 23) rfl
                    have g68 : s28 a 24 = s10 a 24 := (by rw [(zFr_g hF_s28 ha (by decide))])
                    have f69 := zf hS_s10 ha (k := 24) rfl
                    have g70 : s28 a 38 = s10 a 38 := (by rw [(zFr_g hF_s28 ha (by decide))])
                    have f71 := zf hS_s10 ha (k := 38) rfl
                    have g72 : s28 a 51 = s10 a 51 := (by rw [(zFr_g hF_s28 ha (by decide))])
                    have f73 := zf hS_s10 ha (k := 51) rfl
                    have g74 : s28 a 52 = s10 a 52 := (by rw [(zFr_g hF_s28 ha (by decide))])
                    have f75 := zf hS_s10 ha (k := 52) rfl
                    exact j_lret hx hq rfl (by decide) (by decide) dX12_waysOf_242 ⟨w36, rfl, rfl, hS_s28, (zFr_t (zFr_t (zFr_t (zFr_t zFr_rf hF_s2 (by decide)) hF_s8 (by decide)) hF_s10 (by decide)) hF_s28 (by decide)), ⟨(by omega), by omega, by omega, (by have q1 : s28 (gP G a 55) = s10 (gP G a 55) := (by rw [hF_s28 (gP G a 55) (by rw [(zr (k := 55) (t2 := 104) hG ha rfl)]; decide)]); rw [q1]; exact fA26), by omega, by omega, by omega, by omega, by omega, by omega, by omega, by omega, by omega, by omega, by omega, by omega⟩⟩
                  · skip
                    refine j_aload_n hx 0 dX12_waysOf_214 rfl ?_
                    refine g13_27 hx hG ha kf_RX12_56 dX12_waysOf_215 ?_
                    refine j_iload hx 3 dX12_waysOf_218 rfl ?_
                    refine j_aload_n hx 0 dX12_waysOf_220 rfl ?_
                    refine g13_55 hx hG ha kf_RX12_118 dX12_waysOf_221 ?_
                    refine j_sipush hx dX12_waysOf_224 rfl ?_
                    refine j_iload_n hx 1 dX12_waysOf_227 rfl ?_
                    refine j_imul hx (r := 2575) dX12_waysOf_228 (by omega) ?_
                    refine j_iload hx 3 dX12_waysOf_229 rfl ?_
                    refine j_iadd hx (r := v49 + 2575) dX12_waysOf_231 (by omega) ?_
                    have f76 := zah (j := (v49 + 2575).toNat) hS_s10 (zr (k := 55) (t2 := 104) hG ha rfl) (fun k => ⟨_, rfl, (axS_h _).1, (axS_h _).2.1⟩) (zlen hG (zr (k := 55) (t2 := 104) hG ha rfl) (n := 6695) rfl rfl) (show 0 ≤ v49 + 2575 by omega) (by omega) rfl
                    refine j_iald hx hG (zr (k := 55) (t2 := 104) hG ha rfl) (by decide) rfl (zlen hG (zr (k := 55) (t2 := 104) hG ha rfl) (n := 6695) rfl rfl) (by omega) (by omega) (j := (v49 + 2575).toNat) rfl (v := (s10 (gP G a 55) (v49 + 2575).toNat)) (by rw [(zFr_g hF_s28 (zr (k := 55) (t2 := 104) hG ha rfl) (by decide))]) dX12_waysOf_232 ?_
                    refine j_iast hx hG (zr (k := 27) (t2 := 84) hG ha rfl) (by decide) rfl (zlen hG (zr (k := 27) (t2 := 84) hG ha rfl) (n := 515) rfl rfl) (by omega) (by omega) (j := (v49).toNat) rfl dX12_waysOf_233 ?_
                    obtain ⟨s33, e_s33⟩ : ∃ z, z = zU s28 (gP G a 27) (v49).toNat ((s10 (gP G a 55) (v49 + 2575).toNat)) := ⟨_, rfl⟩
                    rw [← e_s33]
                    have hS_s33 : zSK G s33 := by rw [e_s33]; exact zSK_cq hS_s28 hS_s10 (zr (k := 27) (t2 := 84) hG ha rfl) (zr (k := 55) (t2 := 104) hG ha rfl) (fun _ => rfl) rfl (j2 := (v49 + 2575).toNat) (by exact congrArg (fun z => some (axS z)) (by omega)) (by have := (zlen hG (zr (k := 55) (t2 := 104) hG ha rfl) (n := 6695) rfl rfl); omega) rfl
                    refine j_iinc hx 3 [(6, .int (zI (v49 + 1))), (0, .ref a), (3, .int (zI 5)), (4, .long (zL w36))] dX12_waysOf_234 rfl (by omega) (by decide) rfl ?_
                    refine j_goto hx 206 dX12_waysOf_237 rfl ?_
                    exact j_sub [1, 2, 3, 0] [(0, .ref a), (3, .int (zI 5)), (4, .long (zL w36)), (6, .int (zI (v49 + 1)))] rfl (ih_c206_27 (v49 + 1) s33 (by omega) (by omega) hS_s33 (zFr_u (zFr_t zFr_rf hF_s28 (by decide)) e_s33 (zr (k := 27) (t2 := 84) hG ha rfl) (by decide)) (zEp_s hE3 e_s33 (by omega) (by omega) rfl))
              exact j_sub [1, 2, 3, 0] [(0, .ref a), (3, .int (zI 5)), (4, .long (zL w36)), (6, .int (zI 0))] rfl (c206_27 (2147483648 * 4) 0 s10 (by omega) (by omega) hS_s10 zFr_rf (zEp_0 (by omega)))
            refine j_icmp_ne hx 114 dX12_waysOf_89 rfl (by omega) ⟨by decide, by decide⟩ (fun h78 => ?_) (fun h78 => ?_)
            · skip
              refine j_iconst hx dX12_waysOf_114 ?_
              refine j_istore hx [(6, .int (zI 0)), (4, .long (zL 0)), (0, .ref a), (1, .int (zI x1)), (2, .int (zI x2)), (3, .int (zI 5))] dX12_waysOf_115 (by decide) rfl ?_
              have c117_34 : ∀ (m_c117_34 : Nat) (w79 : Int) (v80 : Int) (s35 : zS), 2147483648 - v80 < m_c117_34 → ((-9223372036854775808) ≤ w79 ∧ w79 ≤ 9223372036854775807) → (0 ≤ v80 ∧ v80 ≤ 3) → (zSK G s35) → (zFr [13, 84, 104] G s8 s35) → (s35 a 0 = s8 a 0) → (s35 a 3 = s8 a 3) → (s35 a 4 = s8 a 4) → (s35 a 5 = s8 a 5) → (s35 a 7 = s8 a 7) → (s35 a 21 = s8 a 21) → (s35 a 22 = s8 a 22) → (s35 a 23 = s8 a 23) → (s35 a 24 = s8 a 24) → (s35 a 38 = s8 a 38) → (s35 a 51 = s8 a 51) → (s35 a 52 = s8 a 52) → (zc (s35 (gP G a 27)) ≤ 60) → (s35 (gP G a 27) 488 ≤ 590013) → (zDp (s35 (gP G a 55))) → JJ X E 8 G s35 0 0 [(0, .ref a), (1, .int (zI x1)), (2, .int (zI x2)), (3, .int (zI 5)), (4, .long (zL w79)), (6, .int (zI v80))] 117 [] := by
                intro m_c117_34
                induction m_c117_34 with
                | zero => intro w79 v80 s35 hm_c117_34 fA36 fA37 hS_s35 hF_s35 fA40 fA41 fA42 fA43 fA44 fA45 fA46 fA47 fA48 fA49 fA50 fA51 fA52 fA53 fA54; exfalso; omega
                | succ m_c117_34 ih_c117_34 => 
                  intro w79 v80 s35 hm_c117_34 fA36 fA37 hS_s35 hF_s35 fA40 fA41 fA42 fA43 fA44 fA45 fA46 fA47 fA48 fA49 fA50 fA51 fA52 fA53 fA54
                  refine j_iload hx 5 dX12_waysOf_117 rfl ?_
                  refine j_aload_n hx 0 dX12_waysOf_119 rfl ?_
                  have f81 := zf hS_s35 ha (k := 24) rfl
                  refine g13_24 hx hG ha kf_RX12_189 rfl dX12_waysOf_120 ?_
                  refine j_icmp_ge hx 203 dX12_waysOf_123 rfl (by omega) (by omega) (fun h82 => ?_) (fun h82 => ?_)
                  · skip
                    have f83 := zf hS_s35 ha (k := 0) rfl
                    have f84 := zf hS_s35 ha (k := 3) rfl
                    have f85 := zf hS_s35 ha (k := 4) rfl
                    have f86 := zf hS_s35 ha (k := 5) rfl
                    have f87 := zf hS_s35 ha (k := 7) rfl
                    have f88 := zf hS_s35 ha (k := 21) rfl
                    have f89 := zf hS_s35 ha (k := 22) rfl
                    have f90 := zf hS_s35 ha (k := 23) rfl
                    have f91 := zf hS_s35 ha (k := 38) rfl
                    have f92 := zf hS_s35 ha (k := 51) rfl
                    have f93 := zf hS_s35 ha (k := 52) rfl
                    exact j_sub [0, 3, 4] [(0, .ref a), (3, .int (zI 5)), (4, .long (zL w79))] rfl (c203_9 w79 s35 (by omega) hS_s35 (zFr_t zFr_rf hF_s35 (by decide)) (by omega) (by omega) (by omega) (by omega) (by omega) (by omega) (by omega) (by omega) (by omega) (by omega) (by omega) (by omega) fA54)
                  · skip
                    refine j_iconst hx dX12_waysOf_126 ?_
                    refine j_istore hx [(7, .int (zI 0)), (0, .ref a), (1, .int (zI x1)), (2, .int (zI x2)), (3, .int (zI 5)), (4, .long (zL w79)), (6, .int (zI v80))] dX12_waysOf_127 (by decide) rfl ?_
                    have c129_55 : ∀ (m_c129_55 : Nat) (v94 : Int) (s56 : zS), 2147483648 - v94 < m_c129_55 → (0 ≤ v94 ∧ v94 ≤ 515) → (zSK G s56) → (zFr [84] G s35 s56) → (zEp (v94).toNat (s56 (gP G a 27)) (s35 (gP G a 55)) 2575) → JJ X E 8 G s56 0 0 [(0, .ref a), (1, .int (zI x1)), (2, .int (zI x2)), (3, .int (zI 5)), (4, .long (zL w79)), (6, .int (zI v80)), (7, .int (zI v94))] 129 [] := by
                      intro m_c129_55
                      induction m_c129_55 with
                      | zero => intro v94 s56 hm_c129_55 fA57 hS_s56 hF_s56 hE2; exfalso; omega
                      | succ m_c129_55 ih_c129_55 => 
                        intro v94 s56 hm_c129_55 fA57 hS_s56 hF_s56 hE2
                        refine j_iload hx 6 dX12_waysOf_129 rfl ?_
                        refine j_sipush hx dX12_waysOf_131 rfl ?_
                        refine j_icmp_ge hx 163 dX12_waysOf_134 rfl (by omega) ⟨by decide, by decide⟩ (fun h95 => ?_) (fun h95 => ?_)
                        · skip
                          have z96 := zEp_zc (L := 5) hE2 (by omega) fA54 (by decide)
                          refine j_aload_n hx 0 dX12_waysOf_163 rfl ?_
                          refine j_iload hx 5 dX12_waysOf_164 rfl ?_
                          have g97 : s56 a 0 = s35 a 0 := (by rw [(zFr_g hF_s56 ha (by decide))])
                          have f98 := zf hS_s35 ha (k := 0) rfl
                          have g99 : s56 a 3 = s35 a 3 := (by rw [(zFr_g hF_s56 ha (by decide))])
                          have f100 := zf hS_s35 ha (k := 3) rfl
                          have g101 : s56 a 4 = s35 a 4 := (by rw [(zFr_g hF_s56 ha (by decide))])
                          have f102 := zf hS_s35 ha (k := 4) rfl
                          have g103 : s56 a 5 = s35 a 5 := (by rw [(zFr_g hF_s56 ha (by decide))])
                          have f104 := zf hS_s35 ha (k := 5) rfl
                          have g105 : s56 a 7 = s35 a 7 := (by rw [(zFr_g hF_s56 ha (by decide))])
                          have f106 := zf hS_s35 ha (k := 7) rfl
                          have g107 : s56 a 21 = s35 a 21 := (by rw [(zFr_g hF_s56 ha (by decide))])
                          have f108 := zf hS_s35 ha (k := 21) rfl
                          have g109 : s56 a 22 = s35 a 22 := (by rw [(zFr_g hF_s56 ha (by decide))])
                          have f110 := zf hS_s35 ha (k := 22) rfl
                          have g111 : s56 a 23 = s35 a 23 := (by rw [(zFr_g hF_s56 ha (by decide))])
                          have f112 := zf hS_s35 ha (k := 23) rfl
                          have g113 : s56 a 24 = s35 a 24 := (by rw [(zFr_g hF_s56 ha (by decide))])
                          have g114 : s56 a 38 = s35 a 38 := (by rw [(zFr_g hF_s56 ha (by decide))])
                          have f115 := zf hS_s35 ha (k := 38) rfl
                          have g116 : s56 a 51 = s35 a 51 := (by rw [(zFr_g hF_s56 ha (by decide))])
                          have f117 := zf hS_s35 ha (k := 51) rfl
                          have g118 : s56 a 52 = s35 a 52 := (by rw [(zFr_g hF_s56 ha (by decide))])
                          have f119 := zf hS_s35 ha (k := 52) rfl
                          refine j_callV hx hG (c_X12_turnFor hst a v80) lk_RX12_453 ha (by decide) rfl rfl rfl rfl [.int (zI v80)] ⟨rfl, hG, hS_s56, ha, (by omega), (by omega), (by omega)⟩ rfl rfl ⟨by decide, by decide⟩ ⟨by decide, by decide⟩ (k2 := 0) (n2 := 0) rfl rfl (Nat.le_of_ble_eq_true rfl) dX12_waysOf_166 (kIM (fun v120 s61 hS_s61 hF_s61 q121 => ?_))
                          refine j_pop hx dX12_waysOf_169 rfl ?_
                          refine j_lload hx 4 dX12_waysOf_170 rfl ?_
                          refine j_aload_n hx 0 dX12_waysOf_172 rfl ?_
                          refine g13_17 hx hG ha kf_RX12_44 dX12_waysOf_173 ?_
                          refine j_iconst hx dX12_waysOf_176 ?_
                          refine j_iload hx 5 dX12_waysOf_177 rfl ?_
                          refine j_imul hx (r := 4 * v80) dX12_waysOf_179 rfl ?_
                          have f122 := zaI (j := (4 * v80).toNat) hS0 (zr (k := 17) (t2 := 80) hG ha rfl) rfl (zlen hG (zr (k := 17) (t2 := 80) hG ha rfl) (n := 12) rfl rfl) (show 0 ≤ 4 * v80 by omega) (by omega) rfl
                          refine j_iald hx hG (zr (k := 17) (t2 := 80) hG ha rfl) (by decide) rfl (zlen hG (zr (k := 17) (t2 := 80) hG ha rfl) (n := 12) rfl rfl) (by omega) (by omega) (j := (4 * v80).toNat) rfl (v := (s0 (gP G a 17) (4 * v80).toNat)) (by rw [(zFr_g hF_s61 (zr (k := 17) (t2 := 80) hG ha rfl) (by decide)), (zFr_g hF_s56 (zr (k := 17) (t2 := 80) hG ha rfl) (by decide)), (zFr_g hF_s35 (zr (k := 17) (t2 := 80) hG ha rfl) (by decide)), (zFr_g hF_s8 (zr (k := 17) (t2 := 80) hG ha rfl) (by decide)), (zFr_g hF_s2 (zr (k := 17) (t2 := 80) hG ha rfl) (by decide))]) dX12_waysOf_180 ?_
                          refine j_i2l hx dX12_waysOf_181 (by omega) ?_
                          refine j_aload_n hx 0 dX12_waysOf_182 rfl ?_
                          refine j_iload_n hx 1 dX12_waysOf_183 rfl ?_
                          refine j_iload_n hx 2 dX12_waysOf_184 rfl ?_
                          refine j_iconst hx dX12_waysOf_185 ?_
                          refine j_isub hx (r := x2 - 1) dX12_waysOf_186 rfl ?_
                          refine j_iload_n hx 3 dX12_waysOf_187 rfl ?_
                          refine j_iconst hx dX12_waysOf_188 ?_
                          refine j_iadd hx (r := 6) dX12_waysOf_189 (by omega) ?_
                          have f123 := zf hS_s61 ha (k := 0) rfl
                          have f124 := zf hS_s61 ha (k := 3) rfl
                          have f125 := zf hS_s61 ha (k := 4) rfl
                          have f126 := zf hS_s61 ha (k := 5) rfl
                          have f127 := zf hS_s61 ha (k := 7) rfl
                          have f128 := zf hS_s61 ha (k := 21) rfl
                          have f129 := zf hS_s61 ha (k := 22) rfl
                          have f130 := zf hS_s61 ha (k := 23) rfl
                          have f131 := zf hS_s61 ha (k := 24) rfl
                          have f132 := zf hS_s61 ha (k := 38) rfl
                          have f133 := zf hS_s61 ha (k := 51) rfl
                          have f134 := zf hS_s61 ha (k := 52) rfl
                          refine j_callV hx hG (c_X12_waysOf_6 hst a x1 (x2 - 1) 6) lk_RX12_487 ha (by decide) rfl rfl rfl rfl [.int (zI x1), .int (zI (x2 - 1)), .int (zI 6)] ⟨rfl, hG, hS_s61, ha, (by omega), (by omega), (by omega), (by omega), (by omega), ((by have q1 : s61 (gP G a 55) = s35 (gP G a 55) := (by rw [hF_s61 (gP G a 55) (by rw [(zr (k := 55) (t2 := 104) hG ha rfl)]; decide), hF_s56 (gP G a 55) (by rw [(zr (k := 55) (t2 := 104) hG ha rfl)]; decide)]); rw [q1]; exact fA54))⟩ rfl rfl ⟨by decide, by decide⟩ ⟨by decide, by decide⟩ (k2 := 0) (n2 := 0) rfl rfl (Nat.le_of_ble_eq_true rfl) dX12_waysOf_190 (kLM (fun v135 s62 hS_s62 hF_s62 q136 => ?_))
                          refine j_lmul hx dX12_waysOf_193 (fun w137 f138 f139 => ?_)
                          refine j_ladd hx dX12_waysOf_194 (fun w140 f141 f142 => ?_)
                          refine j_lstore hx [(4, .long (zL w140)), (0, .ref a), (1, .int (zI x1)), (2, .int (zI x2)), (3, .int (zI 5)), (6, .int (zI v80)), (7, .int (zI v94))] dX12_waysOf_195 (by decide) rfl ?_
                          refine j_iinc hx 5 [(6, .int (zI (v80 + 1))), (4, .long (zL w140)), (0, .ref a), (1, .int (zI x1)), (2, .int (zI x2)), (3, .int (zI 5)), (7, .int (zI v94))] dX12_waysOf_197 rfl (by omega) (by decide) rfl ?_
                          refine j_goto hx 117 dX12_waysOf_200 rfl ?_
                          have f143 := zf hS_s62 ha (k := 0) rfl
                          have f144 := zf hS_s62 ha (k := 3) rfl
                          have f145 := zf hS_s62 ha (k := 4) rfl
                          have f146 := zf hS_s62 ha (k := 5) rfl
                          have f147 := zf hS_s62 ha (k := 7) rfl
                          have f148 := zf hS_s62 ha (k := 21) rfl
                          have f149 := zf hS_s62 ha (k := 22) rfl
                          have f150 := zf hS_s62 ha (k := 23) rfl
                          have f151 := zf hS_s62 ha (k := 24) rfl
                          have f152 := zf hS_s62 ha (k := 38) rfl
                          have f153 := zf hS_s62 ha (k := 51) rfl
                          have f154 := zf hS_s62 ha (k := 52) rfl
                          exact j_sub [2, 3, 4, 5, 1, 0] [(0, .ref a), (1, .int (zI x1)), (2, .int (zI x2)), (3, .int (zI 5)), (4, .long (zL w140)), (6, .int (zI (v80 + 1)))] rfl (ih_c117_34 w140 (v80 + 1) s62 (by omega) (by omega) (by omega) hS_s62 (zFr_t (zFr_t (zFr_t (zFr_t zFr_rf hF_s35 (by decide)) hF_s56 (by decide)) hF_s61 (by decide)) hF_s62 (by decide)) (by omega) (by omega) (by omega) (by omega) (by omega) (by omega) (by omega) (by omega) (by omega) (by omega) (by omega) (by omega) (by omega) (by omega) q136.2.2.2.1)
                        · skip
                          refine j_aload_n hx 0 dX12_waysOf_137 rfl ?_
                          refine g13_27 hx hG ha kf_RX12_56 dX12_waysOf_138 ?_
                          refine j_iload hx 6 dX12_waysOf_141 rfl ?_
                          refine j_aload_n hx 0 dX12_waysOf_143 rfl ?_
                          refine g13_55 hx hG ha kf_RX12_118 dX12_waysOf_144 ?_
                          refine j_sipush hx dX12_waysOf_147 rfl ?_
                          refine j_iload_n hx 3 dX12_waysOf_150 rfl ?_
                          refine j_imul hx (r := 2575) dX12_waysOf_151 (by omega) ?_
                          refine j_iload hx 6 dX12_waysOf_152 rfl ?_
                          refine j_iadd hx (r := v94 + 2575) dX12_waysOf_154 (by omega) ?_
                          have f155 := zah (j := (v94 + 2575).toNat) hS_s35 (zr (k := 55) (t2 := 104) hG ha rfl) (fun k => ⟨_, rfl, (axS_h _).1, (axS_h _).2.1⟩) (zlen hG (zr (k := 55) (t2 := 104) hG ha rfl) (n := 6695) rfl rfl) (show 0 ≤ v94 + 2575 by omega) (by omega) rfl
                          refine j_iald hx hG (zr (k := 55) (t2 := 104) hG ha rfl) (by decide) rfl (zlen hG (zr (k := 55) (t2 := 104) hG ha rfl) (n := 6695) rfl rfl) (by omega) (by omega) (j := (v94 + 2575).toNat) rfl (v := (s35 (gP G a 55) (v94 + 2575).toNat)) (by rw [(zFr_g hF_s56 (zr (k := 55) (t2 := 104) hG ha rfl) (by decide))]) dX12_waysOf_155 ?_
                          refine j_iast hx hG (zr (k := 27) (t2 := 84) hG ha rfl) (by decide) rfl (zlen hG (zr (k := 27) (t2 := 84) hG ha rfl) (n := 515) rfl rfl) (by omega) (by omega) (j := (v94).toNat) rfl dX12_waysOf_156 ?_
                          obtain ⟨s63, e_s63⟩ : ∃ z, z = zU s56 (gP G a 27) (v94).toNat ((s35 (gP G a 55) (v94 + 2575).toNat)) := ⟨_, rfl⟩
                          rw [← e_s63]
                          have hS_s63 : zSK G s63 := by rw [e_s63]; exact zSK_cq hS_s56 hS_s35 (zr (k := 27) (t2 := 84) hG ha rfl) (zr (k := 55) (t2 := 104) hG ha rfl) (fun _ => rfl) rfl (j2 := (v94 + 2575).toNat) (by exact congrArg (fun z => some (axS z)) (by omega)) (by have := (zlen hG (zr (k := 55) (t2 := 104) hG ha rfl) (n := 6695) rfl rfl); omega) rfl
                          refine j_iinc hx 6 [(7, .int (zI (v94 + 1))), (0, .ref a), (1, .int (zI x1)), (2, .int (zI x2)), (3, .int (zI 5)), (4, .long (zL w79)), (6, .int (zI v80))] dX12_waysOf_157 rfl (by omega) (by decide) rfl ?_
                          refine j_goto hx 129 dX12_waysOf_160 rfl ?_
                          exact j_sub [1, 2, 3, 4, 5, 6, 0] [(0, .ref a), (1, .int (zI x1)), (2, .int (zI x2)), (3, .int (zI 5)), (4, .long (zL w79)), (6, .int (zI v80)), (7, .int (zI (v94 + 1)))] rfl (ih_c129_55 (v94 + 1) s63 (by omega) (by omega) hS_s63 (zFr_u (zFr_t zFr_rf hF_s56 (by decide)) e_s63 (zr (k := 27) (t2 := 84) hG ha rfl) (by decide)) (zEp_s hE2 e_s63 (by omega) (by omega) rfl))
                    exact j_sub [1, 2, 3, 4, 5, 6, 0] [(0, .ref a), (1, .int (zI x1)), (2, .int (zI x2)), (3, .int (zI 5)), (4, .long (zL w79)), (6, .int (zI v80)), (7, .int (zI 0))] rfl (c129_55 (2147483648 * 4) 0 s35 (by omega) (by omega) hS_s35 zFr_rf (zEp_0 (by omega)))
              exact j_sub [2, 3, 4, 5, 1, 0] [(0, .ref a), (1, .int (zI x1)), (2, .int (zI x2)), (3, .int (zI 5)), (4, .long (zL 0)), (6, .int (zI 0))] rfl (c117_34 (2147483648 * 4) 0 0 s8 (by omega) (by omega) (by omega) hS_s8 zFr_rf (by omega) (by omega) (by omega) (by omega) (by omega) (by omega) (by omega) (by omega) (by omega) (by omega) (by omega) (by omega) (by omega) (by omega) (by have q1 : s8 (gP G a 55) = s2 (gP G a 55) := (by rw [hF_s8 (gP G a 55) (by rw [(zr (k := 55) (t2 := 104) hG ha rfl)]; decide)]); rw [q1]; exact hP4))
            · skip
              refine j_aload_n hx 1 dX12_waysOf_92 rfl ?_
              refine j_callV hx hG (c_X12_quickness hst a) lk_RX12_484 ha (by decide) rfl rfl rfl rfl [] ⟨rfl, hG, hS_s8, ha⟩ rfl rfl ⟨by decide, by decide⟩ ⟨by decide, by decide⟩ (k2 := 0) (n2 := 0) rfl rfl (Nat.le_of_ble_eq_true rfl) dX12_waysOf_93 (kIP (fun v157 q158 => ?_))
              refine j_i2l hx dX12_waysOf_96 (by omega) ?_
              refine j_aload_n hx 1 dX12_waysOf_97 rfl ?_
              refine j_iload_n hx 2 dX12_waysOf_98 rfl ?_
              refine j_iload_n hx 3 dX12_waysOf_99 rfl ?_
              refine j_iconst hx dX12_waysOf_100 ?_
              refine j_isub hx (r := x2 - 1) dX12_waysOf_101 rfl ?_
              refine j_iload_n hx 4 dX12_waysOf_102 rfl ?_
              refine j_iconst hx dX12_waysOf_103 ?_
              refine j_iadd hx (r := 6) dX12_waysOf_104 (by omega) ?_
              refine j_callV hx hG (c_X12_waysOf_6 hst a x1 (x2 - 1) 6) lk_RX12_487 ha (by decide) rfl rfl rfl rfl [.int (zI x1), .int (zI (x2 - 1)), .int (zI 6)] ⟨rfl, hG, hS_s8, ha, (by omega), (by omega), (by omega), (by omega), (by omega), ((by have q1 : s8 (gP G a 55) = s2 (gP G a 55) := (by rw [hF_s8 (gP G a 55) (by rw [(zr (k := 55) (t2 := 104) hG ha rfl)]; decide)]); rw [q1]; exact hP4))⟩ rfl rfl ⟨by decide, by decide⟩ ⟨by decide, by decide⟩ (k2 := 0) (n2 := 0) rfl rfl (Nat.le_of_ble_eq_true rfl) dX12_waysOf_105 (kLM (fun v159 s64 hS_s64 hF_s64 q160 => ?_))
              refine j_lmul hx dX12_waysOf_108 (fun w161 f162 f163 => ?_)
              refine j_lstore hx [(4, .long (zL w161)), (0, .ref a), (1, .int (zI x1)), (2, .int (zI x2)), (3, .int (zI 5))] dX12_waysOf_109 (by decide) rfl ?_
              refine j_goto hx 203 dX12_waysOf_111 rfl ?_
              have f164 := zf hS_s64 ha (k := 0) rfl
              have f165 := zf hS_s64 ha (k := 3) rfl
              have f166 := zf hS_s64 ha (k := 4) rfl
              have f167 := zf hS_s64 ha (k := 5) rfl
              have f168 := zf hS_s64 ha (k := 7) rfl
              have f169 := zf hS_s64 ha (k := 21) rfl
              have f170 := zf hS_s64 ha (k := 22) rfl
              have f171 := zf hS_s64 ha (k := 23) rfl
              have f172 := zf hS_s64 ha (k := 24) rfl
              have f173 := zf hS_s64 ha (k := 38) rfl
              have f174 := zf hS_s64 ha (k := 51) rfl
              have f175 := zf hS_s64 ha (k := 52) rfl
              exact j_sub [1, 4, 0] [(0, .ref a), (3, .int (zI 5)), (4, .long (zL w161))] rfl (c203_9 w161 s64 (by omega) hS_s64 (zFr_t zFr_rf hF_s64 (by decide)) (by omega) (by omega) (by omega) (by omega) (by omega) (by omega) (by omega) (by omega) (by omega) (by omega) (by omega) (by omega) q160.2.2.2.1)
          · skip
            refine j_aload_n hx 1 dX12_waysOf_66 rfl ?_
            refine j_callV hx hG (c_X12_quickness hst a) lk_RX12_484 ha (by decide) rfl rfl rfl rfl [] ⟨rfl, hG, hS_s8, ha⟩ rfl rfl ⟨by decide, by decide⟩ ⟨by decide, by decide⟩ (k2 := 0) (n2 := 0) rfl rfl (Nat.le_of_ble_eq_true rfl) dX12_waysOf_67 (kIP (fun v176 q177 => ?_))
            refine j_i2l hx dX12_waysOf_70 (by omega) ?_
            refine j_aload_n hx 1 dX12_waysOf_71 rfl ?_
            refine j_iload_n hx 2 dX12_waysOf_72 rfl ?_
            refine j_iload_n hx 3 dX12_waysOf_73 rfl ?_
            refine j_iconst hx dX12_waysOf_74 ?_
            refine j_isub hx (r := x2 - 1) dX12_waysOf_75 rfl ?_
            refine j_iload_n hx 4 dX12_waysOf_76 rfl ?_
            refine j_iconst hx dX12_waysOf_77 ?_
            refine j_iadd hx (r := 6) dX12_waysOf_78 (by omega) ?_
            have f178 := zf hS_s8 ha (k := 0) rfl
            have f179 := zf hS_s8 ha (k := 3) rfl
            have f180 := zf hS_s8 ha (k := 4) rfl
            have f181 := zf hS_s8 ha (k := 5) rfl
            have f182 := zf hS_s8 ha (k := 7) rfl
            have f183 := zf hS_s8 ha (k := 21) rfl
            have f184 := zf hS_s8 ha (k := 22) rfl
            have f185 := zf hS_s8 ha (k := 23) rfl
            have f186 := zf hS_s8 ha (k := 24) rfl
            have f187 := zf hS_s8 ha (k := 38) rfl
            have f188 := zf hS_s8 ha (k := 51) rfl
            have f189 := zf hS_s8 ha (k := 52) rfl
            refine j_callV hx hG (c_X12_waysOf_6 hst a x1 (x2 - 1) 6) lk_RX12_487 ha (by decide) rfl rfl rfl rfl [.int (zI x1), .int (zI (x2 - 1)), .int (zI 6)] ⟨rfl, hG, hS_s8, ha, (by omega), (by omega), (by omega), (by omega), (by omega), ((by have q1 : s8 (gP G a 55) = s2 (gP G a 55) := (by rw [hF_s8 (gP G a 55) (by rw [(zr (k := 55) (t2 := 104) hG ha rfl)]; decide)]); rw [q1]; exact hP4))⟩ rfl rfl ⟨by decide, by decide⟩ ⟨by decide, by decide⟩ (k2 := 0) (n2 := 0) rfl rfl (Nat.le_of_ble_eq_true rfl) dX12_waysOf_79 (kLM (fun v190 s65 hS_s65 hF_s65 q191 => ?_))
            refine j_lmul hx dX12_waysOf_82 (fun w192 f193 f194 => ?_)
            have f195 := zf hS_s65 ha (k := 0) rfl
            have f196 := zf hS_s65 ha (k := 3) rfl
            have f197 := zf hS_s65 ha (k := 4) rfl
            have f198 := zf hS_s65 ha (k := 5) rfl
            have f199 := zf hS_s65 ha (k := 7) rfl
            have f200 := zf hS_s65 ha (k := 21) rfl
            have f201 := zf hS_s65 ha (k := 22) rfl
            have f202 := zf hS_s65 ha (k := 23) rfl
            have f203 := zf hS_s65 ha (k := 24) rfl
            have f204 := zf hS_s65 ha (k := 38) rfl
            have f205 := zf hS_s65 ha (k := 51) rfl
            have f206 := zf hS_s65 ha (k := 52) rfl
            exact j_lret hx hq rfl (by decide) (by decide) dX12_waysOf_83 ⟨w192, rfl, rfl, hS_s65, (zFr_t (zFr_t (zFr_t zFr_rf hF_s2 (by decide)) hF_s8 (by decide)) hF_s65 (by decide)), ⟨(by omega), by omega, by omega, q191.2.2.2.1, by omega, by omega, by omega, by omega, by omega, by omega, by omega, by omega, by omega, by omega, by omega, by omega⟩⟩
        · skip
          refine j_aload_n hx 0 dX12_waysOf_29 rfl ?_
          refine g13_55 hx hG ha kf_RX12_118 dX12_waysOf_30 ?_
          refine j_sipush hx dX12_waysOf_33 rfl ?_
          refine j_iload_n hx 3 dX12_waysOf_36 rfl ?_
          refine j_imul hx (r := 2575) dX12_waysOf_37 (by omega) ?_
          refine j_iload hx 4 dX12_waysOf_38 rfl ?_
          refine j_iadd hx (r := v2 + 2575) dX12_waysOf_40 (by omega) ?_
          refine j_aload_n hx 0 dX12_waysOf_41 rfl ?_
          refine g13_27 hx hG ha kf_RX12_56 dX12_waysOf_42 ?_
          refine j_iload hx 4 dX12_waysOf_45 rfl ?_
          have f207 := zah (j := (v2).toNat) hS0 (zr (k := 27) (t2 := 84) hG ha rfl) (fun k => ⟨_, rfl, (axS_h _).1, (axS_h _).2.1⟩) (zlen hG (zr (k := 27) (t2 := 84) hG ha rfl) (n := 515) rfl rfl) (show 0 ≤ v2 by omega) (by omega) rfl
          refine j_iald hx hG (zr (k := 27) (t2 := 84) hG ha rfl) (by decide) rfl (zlen hG (zr (k := 27) (t2 := 84) hG ha rfl) (n := 515) rfl rfl) (by omega) (by omega) (j := (v2).toNat) rfl (v := (s0 (gP G a 27) (v2).toNat)) (by rw [(zFr_g hF_s2 (zr (k := 27) (t2 := 84) hG ha rfl) (by decide))]) dX12_waysOf_47 ?_
          refine j_iast hx hG (zr (k := 55) (t2 := 104) hG ha rfl) (by decide) rfl (zlen hG (zr (k := 55) (t2 := 104) hG ha rfl) (n := 6695) rfl rfl) (by omega) (by omega) (j := (v2 + 2575).toNat) rfl dX12_waysOf_48 ?_
          obtain ⟨s66, e_s66⟩ : ∃ z, z = zU s2 (gP G a 55) (v2 + 2575).toNat ((s0 (gP G a 27) (v2).toNat)) := ⟨_, rfl⟩
          rw [← e_s66]
          have hS_s66 : zSK G s66 := by rw [e_s66]; exact zSK_cq hS_s2 hS0 (zr (k := 55) (t2 := 104) hG ha rfl) (zr (k := 27) (t2 := 84) hG ha rfl) (fun _ => rfl) rfl (j2 := (v2).toNat) (by exact congrArg (fun z => some (axS z)) (by omega)) (by have := (zlen hG (zr (k := 27) (t2 := 84) hG ha rfl) (n := 515) rfl rfl); omega) rfl
          refine j_iinc hx 4 [(4, .int (zI (v2 + 1))), (0, .ref a), (1, .int (zI x1)), (2, .int (zI x2)), (3, .int (zI 5))] dX12_waysOf_49 rfl (by omega) (by decide) rfl ?_
          refine j_goto hx 21 dX12_waysOf_52 rfl ?_
          exact j_sub [1, 2, 3, 4, 0] [(0, .ref a), (1, .int (zI x1)), (2, .int (zI x2)), (3, .int (zI 5)), (4, .int (zI (v2 + 1)))] rfl (ih_c21_1 (v2 + 1) s66 (by omega) (by omega) hS_s66 (zFr_u (zFr_t zFr_rf hF_s2 (by decide)) e_s66 (zr (k := 55) (t2 := 104) hG ha rfl) (by decide)) (zDx_s hD1 e_s66 (by omega)) (zEo_s hE1 e_s66 (by omega) (by omega) rfl))
    exact j_sub [1, 2, 3, 4, 0] [(0, .ref a), (1, .int (zI x1)), (2, .int (zI x2)), (3, .int (zI 5)), (4, .int (zI 0))] rfl (c21_1 (2147483648 * 4) 0 s0 (by omega) (by omega) hS0 zFr_rf (zDx_of e2) (zEo_0 (by omega)))
  · skip
    refine j_aload_n hx 0 dX12_waysOf_4 rfl ?_
    refine j_iload_n hx 1 dX12_waysOf_5 rfl ?_
    refine j_callV hx hG (c_X12_hasMost hst a x1) lk_RX12_481 ha (by decide) rfl rfl rfl rfl [.int (zI x1)] ⟨rfl, hG, hS0, ha, (by omega)⟩ rfl rfl ⟨by decide, by decide⟩ ⟨by decide, by decide⟩ (k2 := 0) (n2 := 0) rfl rfl (Nat.le_of_ble_eq_true rfl) dX12_waysOf_6 (kIP (fun v208 q209 => ?_))
    refine j_if_eq hx 16 dX12_waysOf_9 rfl (by omega) (fun h210 => ?_) (fun h210 => ?_)
    · skip
      refine j_lconst hx dX12_waysOf_16 ?_
      show JJ X E 8 G s0 0 0 [(0, .ref a), (1, .int (zI x1)), (2, .int (zI x2)), (3, .int (zI 5))] 17 [.long (zL 0)]
      have f211 := zf hS0 ha (k := 0) rfl
      have f212 := zf hS0 ha (k := 3) rfl
      have f213 := zf hS0 ha (k := 4) rfl
      have f214 := zf hS0 ha (k := 5) rfl
      have f215 := zf hS0 ha (k := 7) rfl
      have f216 := zf hS0 ha (k := 21) rfl
      have f217 := zf hS0 ha (k := 22) rfl
      have f218 := zf hS0 ha (k := 23) rfl
      have f219 := zf hS0 ha (k := 24) rfl
      have f220 := zf hS0 ha (k := 38) rfl
      have f221 := zf hS0 ha (k := 51) rfl
      have f222 := zf hS0 ha (k := 52) rfl
      exact j_lret hx hq rfl (by decide) (by decide) dX12_waysOf_17 ⟨0, rfl, rfl, hS0, zFr_rf, ⟨(by omega), by omega, by omega, e2, by omega, by omega, by omega, by omega, by omega, by omega, by omega, by omega, by omega, by omega, by omega, by omega⟩⟩
    · skip
      refine j_lconst hx dX12_waysOf_12 ?_
      show JJ X E 8 G s0 0 0 [(0, .ref a), (1, .int (zI x1)), (2, .int (zI x2)), (3, .int (zI 5))] 13 [.long (zL 1)]
      refine j_goto hx 17 dX12_waysOf_13 rfl ?_
      have f223 := zf hS0 ha (k := 0) rfl
      have f224 := zf hS0 ha (k := 3) rfl
      have f225 := zf hS0 ha (k := 4) rfl
      have f226 := zf hS0 ha (k := 5) rfl
      have f227 := zf hS0 ha (k := 7) rfl
      have f228 := zf hS0 ha (k := 21) rfl
      have f229 := zf hS0 ha (k := 22) rfl
      have f230 := zf hS0 ha (k := 23) rfl
      have f231 := zf hS0 ha (k := 24) rfl
      have f232 := zf hS0 ha (k := 38) rfl
      have f233 := zf hS0 ha (k := 51) rfl
      have f234 := zf hS0 ha (k := 52) rfl
      exact j_lret hx hq rfl (by decide) (by decide) dX12_waysOf_17 ⟨1, rfl, rfl, hS0, zFr_rf, ⟨(by omega), by omega, by omega, e2, by omega, by omega, by omega, by omega, by omega, by omega, by omega, by omega, by omega, by omega, by omega, by omega⟩⟩
