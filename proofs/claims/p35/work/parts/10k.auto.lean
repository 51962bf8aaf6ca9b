theorem lk_RX12_435 : LkV RX12 435 RX12 yX12_writes cX12_writes 5 none 1 := ⟨km_RX12_435, ki_yX12_writes, ks_RX12_yX12_writes, kn_RX12, kc_yX12_writes, rfl, by decide +kernel, by decide +kernel, by decide +kernel⟩
theorem lk_RX12_438 : LkV RX12 438 RX12 yX12_earlier cX12_earlier 5 (some .int) 1 := ⟨km_RX12_438, ki_yX12_earlier, ks_RX12_yX12_earlier, kn_RX12, kc_yX12_earlier, rfl, by decide +kernel, by decide +kernel, by decide +kernel⟩
set_option maxHeartbeats 1200000 in
set_option maxRecDepth 20000 in
theorem c_X12_findEnds {E : zE} {l : Launch} (hst : l.stackTraces = false) (a : Nat) : Con E l yX12_findEnds cX12_findEnds 2 none { frames := 6, cells := 0, slots := 0, locals := 141 } (fun G s vs => vs = [.ref a] ∧ zGK G ∧ zSK G s ∧ (gT G a = 13) ∧ (zc (s (gP G a 27)) ≤ 60) ∧ (zRva (s (gP G a 34)) (s (gP G a 35)) (s (gP G a 37))) ∧ (s (gP G a 27) 488 ≤ 590000)) (fun G s _ => pV (fun G2 s2 => G2 = G ∧ zSK G s2 ∧ zFr [13, 84, 87, 95, 98, 101, 102, 103] G s s2 ∧ zc (s2 (gP G a 27)) = zc (s (gP G a 27)) ∧ s2 a 0 = s a 0 ∧ s2 a 3 = s a 3 ∧ s2 a 4 = s a 4 ∧ s2 a 5 = s a 5 ∧ s2 a 7 = s a 7 ∧ s2 a 21 = s a 21 ∧ s2 a 22 = s a 22 ∧ s2 a 23 = s a 23 ∧ s2 a 24 = s a 24 ∧ s2 a 38 = s a 38)) := by
  refine Con.mk hst (by decide) (fun G s vs h => by rw [h.1]; exact Nat.le_of_ble_eq_true rfl) ?_
  rintro X G s0 vs ⟨rfl, hG, hS0, ha, e0, e1, e2⟩ rfl hx hq
  show JJ X E 2 G s0 0 0 [(0, .ref a)] 0 []
  refine j_iconst hx dX12_findEnds_0 ?_
  refine j_istore_n hx [(1, .int (zI 0)), (0, .ref a)] dX12_findEnds_1 (by decide) rfl ?_
  have c2_1 : ∀ (m_c2_1 : Nat) (v1 : Int) (s2 : zS), 2147483648 - v1 < m_c2_1 → (0 ≤ v1 ∧ v1 ≤ 8192) → (zSK G s2) → (zFr [103] G s0 s2) → (zAll s2 (gP G a 50) (v1).toNat (-1)) → JJ X E 2 G s2 0 0 [(0, .ref a), (1, .int (zI v1))] 2 [] := by
    intro m_c2_1
    induction m_c2_1 with
    | zero => intro v1 s2 hm_c2_1 fA3 hS_s2 hF_s2 hB1; exfalso; omega
    | succ m_c2_1 ih_c2_1 => 
      intro v1 s2 hm_c2_1 fA3 hS_s2 hF_s2 hB1
      refine j_iload_n hx 1 dX12_findEnds_2 rfl ?_
      refine j_sipush hx dX12_findEnds_3 rfl ?_
      refine j_icmp_ge hx 22 dX12_findEnds_6 rfl (by omega) ⟨by decide, by decide⟩ (fun h2 => ?_) (fun h2 => ?_)
      · skip
        have hP3 : zCh (s2 (gP G a 49)) (s2 (gP G a 50)) 0 := zCh_0 hB1 (by omega)
        refine j_aload_n hx 0 dX12_findEnds_22 rfl ?_
        refine j_iconst hx dX12_findEnds_23 ?_
        refine p13_53 hx hG ha kf_RX12_426 dX12_findEnds_24 ?_
        obtain ⟨s7, e_s7⟩ : ∃ z, z = zU s2 a 53 0 := ⟨_, rfl⟩
        rw [← e_s7]
        have hS_s7 : zSK G s7 := by rw [e_s7]; exact zSK_F hS_s2 ha rfl rfl rfl (by omega)
        refine j_aload_n hx 0 dX12_findEnds_27 rfl ?_
        refine j_iconst hx dX12_findEnds_28 ?_
        refine p13_52 hx hG ha kf_RX12_429 dX12_findEnds_29 ?_
        obtain ⟨s8, e_s8⟩ : ∃ z, z = zU s7 a 52 0 := ⟨_, rfl⟩
        rw [← e_s8]
        have hS_s8 : zSK G s8 := by rw [e_s8]; exact zSK_F hS_s7 ha rfl rfl rfl (by omega)
        refine j_aload_n hx 0 dX12_findEnds_32 rfl ?_
        refine j_aload_n hx 0 dX12_findEnds_33 rfl ?_
        refine j_callV hx hG (c_X12_isOver hst a) lk_RX12_328 ha (by decide) rfl rfl rfl rfl [] ⟨rfl, hG, hS_s8, ha⟩ rfl rfl ⟨by decide, by decide⟩ ⟨by decide, by decide⟩ (k2 := 0) (n2 := 0) rfl rfl (Nat.le_of_ble_eq_true rfl) dX12_findEnds_34 (kIP (fun v4 q5 => ?_))
        refine j_if_eq hx 44 dX12_findEnds_37 rfl (by omega) (fun h6 => ?_) (fun h6 => ?_)
        · skip
          refine j_iconst hx dX12_findEnds_44 ?_
          refine p13_51 hx hG ha kf_RX12_432 dX12_findEnds_45 ?_
          obtain ⟨s9, e_s9⟩ : ∃ z, z = zU s8 a 51 (-1) := ⟨_, rfl⟩
          rw [← e_s9]
          have hS_s9 : zSK G s9 := by rw [e_s9]; exact zSK_F hS_s8 ha rfl rfl rfl (by omega)
          refine j_aload_n hx 0 dX12_findEnds_48 rfl ?_
          refine j_iconst hx dX12_findEnds_49 ?_
          have g7 : zc (s9 (gP G a 27)) = zc (s0 (gP G a 27)) := by rw [e_s9, zU_ne (zne ha (zr (k := 27) (t2 := 84) hG ha rfl) (by decide)), e_s8, zU_ne (zne ha (zr (k := 27) (t2 := 84) hG ha rfl) (by decide)), e_s7, zU_ne (zne ha (zr (k := 27) (t2 := 84) hG ha rfl) (by decide)), hF_s2 (gP G a 27) (by rw [(zr (k := 27) (t2 := 84) hG ha rfl)]; decide)]
          refine j_callV hx hG (c_X12_writes hst a 0) lk_RX12_435 ha (by decide) rfl rfl rfl rfl [.int (zI 0)] ⟨rfl, hG, hS_s9, ha, (by omega), (by omega)⟩ rfl rfl ⟨by decide, by decide⟩ ⟨by decide, by decide⟩ (k2 := 0) (n2 := 0) rfl rfl (Nat.le_of_ble_eq_true rfl) dX12_findEnds_50 (kVM (fun s10 hS_s10 hF_s10 q9 => ?_))
          refine j_aload_n hx 0 dX12_findEnds_53 rfl ?_
          refine j_iconst hx dX12_findEnds_54 ?_
          refine j_callV hx hG (c_X12_earlier hst a 0) lk_RX12_438 ha (by decide) rfl rfl rfl rfl [.int (zI 0)] ⟨rfl, hG, hS_s10, ha, (by omega), ((by have q1 : s10 (gP G a 34) = s0 (gP G a 34) := (by rw [hF_s10 (gP G a 34) (by rw [(zr (k := 34) (t2 := 91) hG ha rfl)]; decide), e_s9, zU_ne (zne ha (zr (k := 34) (t2 := 91) hG ha rfl) (by decide)), e_s8, zU_ne (zne ha (zr (k := 34) (t2 := 91) hG ha rfl) (by decide)), e_s7, zU_ne (zne ha (zr (k := 34) (t2 := 91) hG ha rfl) (by decide)), hF_s2 (gP G a 34) (by rw [(zr (k := 34) (t2 := 91) hG ha rfl)]; decide)]); have q2 : s10 (gP G a 35) = s0 (gP G a 35) := (by rw [hF_s10 (gP G a 35) (by rw [(zr (k := 35) (t2 := 92) hG ha rfl)]; decide), e_s9, zU_ne (zne ha (zr (k := 35) (t2 := 92) hG ha rfl) (by decide)), e_s8, zU_ne (zne ha (zr (k := 35) (t2 := 92) hG ha rfl) (by decide)), e_s7, zU_ne (zne ha (zr (k := 35) (t2 := 92) hG ha rfl) (by decide)), hF_s2 (gP G a 35) (by rw [(zr (k := 35) (t2 := 92) hG ha rfl)]; decide)]); have q3 : s10 (gP G a 37) = s0 (gP G a 37) := (by rw [hF_s10 (gP G a 37) (by rw [(zr (k := 37) (t2 := 94) hG ha rfl)]; decide), e_s9, zU_ne (zne ha (zr (k := 37) (t2 := 94) hG ha rfl) (by decide)), e_s8, zU_ne (zne ha (zr (k := 37) (t2 := 94) hG ha rfl) (by decide)), e_s7, zU_ne (zne ha (zr (k := 37) (t2 := 94) hG ha rfl) (by decide)), hF_s2 (gP G a 37) (by rw [(zr (k := 37) (t2 := 94) hG ha rfl)]; decide)]); rw [q1, q2, q3]; exact e1)), ((by have q1 : s10 (gP G a 49) = s2 (gP G a 49) := (by rw [hF_s10 (gP G a 49) (by rw [(zr (k := 49) (t2 := 102) hG ha rfl)]; decide), e_s9, zU_ne (zne ha (zr (k := 49) (t2 := 102) hG ha rfl) (by decide)), e_s8, zU_ne (zne ha (zr (k := 49) (t2 := 102) hG ha rfl) (by decide)), e_s7, zU_ne (zne ha (zr (k := 49) (t2 := 102) hG ha rfl) (by decide))]); have q2 : s10 (gP G a 50) = s2 (gP G a 50) := (by rw [hF_s10 (gP G a 50) (by rw [(zr (k := 50) (t2 := 103) hG ha rfl)]; decide), e_s9, zU_ne (zne ha (zr (k := 50) (t2 := 103) hG ha rfl) (by decide)), e_s8, zU_ne (zne ha (zr (k := 50) (t2 := 103) hG ha rfl) (by decide)), e_s7, zU_ne (zne ha (zr (k := 50) (t2 := 103) hG ha rfl) (by decide))]); rw [q1, q2]; exact (zCh_n hP3 (by omega))))⟩ rfl rfl ⟨by decide, by decide⟩ ⟨by decide, by decide⟩ (k2 := 0) (n2 := 0) rfl rfl (Nat.le_of_ble_eq_true rfl) dX12_findEnds_55 (kIM (fun v10 s11 hS_s11 hF_s11 q11 => ?_))
          refine j_pop hx dX12_findEnds_58 rfl ?_
          have g12 : s11 a 0 = s0 a 0 := (by rw [(zFr_g hF_s11 ha (by decide)), (zFr_g hF_s10 ha (by decide)), e_s9, zU_at (Or.inr (by decide)), e_s8, zU_at (Or.inr (by decide)), e_s7, zU_at (Or.inr (by decide)), (zFr_g hF_s2 ha (by decide))])
          have f13 := zf hS0 ha (k := 0) rfl
          have g14 : s11 a 3 = s0 a 3 := (by rw [(zFr_g hF_s11 ha (by decide)), (zFr_g hF_s10 ha (by decide)), e_s9, zU_at (Or.inr (by decide)), e_s8, zU_at (Or.inr (by decide)), e_s7, zU_at (Or.inr (by decide)), (zFr_g hF_s2 ha (by decide))])
          have f15 := zf hS0 ha (k := 3) rfl
          have g16 : s11 a 4 = s0 a 4 := (by rw [(zFr_g hF_s11 ha (by decide)), (zFr_g hF_s10 ha (by decide)), e_s9, zU_at (Or.inr (by decide)), e_s8, zU_at (Or.inr (by decide)), e_s7, zU_at (Or.inr (by decide)), (zFr_g hF_s2 ha (by decide))])
          have f17 := zf hS0 ha (k := 4) rfl
          have g18 : s11 a 5 = s0 a 5 := (by rw [(zFr_g hF_s11 ha (by decide)), (zFr_g hF_s10 ha (by decide)), e_s9, zU_at (Or.inr (by decide)), e_s8, zU_at (Or.inr (by decide)), e_s7, zU_at (Or.inr (by decide)), (zFr_g hF_s2 ha (by decide))])
          have f19 := zf hS0 ha (k := 5) rfl
          have g20 : s11 a 7 = s0 a 7 := (by rw [(zFr_g hF_s11 ha (by decide)), (zFr_g hF_s10 ha (by decide)), e_s9, zU_at (Or.inr (by decide)), e_s8, zU_at (Or.inr (by decide)), e_s7, zU_at (Or.inr (by decide)), (zFr_g hF_s2 ha (by decide))])
          have f21 := zf hS0 ha (k := 7) rfl
          have g22 : s11 a 21 = s0 a 21 := (by rw [(zFr_g hF_s11 ha (by decide)), (zFr_g hF_s10 ha (by decide)), e_s9, zU_at (Or.inr (by decide)), e_s8, zU_at (Or.inr (by decide)), e_s7, zU_at (Or.inr (by decide)), (zFr_g hF_s2 ha (by decide))])
          have f23 := zf hS0 ha (k := 21) rfl
          have g24 : s11 a 22 = s0 a 22 := (by rw [(zFr_g hF_s11 ha (by decide)), (zFr_g hF_s10 ha (by decide)), e_s9, zU_at (Or.inr (by decide)), e_s8, zU_at (Or.inr (by decide)), e_s7, zU_at (Or.inr (by decide)), (zFr_g hF_s2 ha (by decide))])
          have f25 := zf hS0 ha (k := 22) rfl
          have g26 : s11 a 23 = s0 a 23 := (by rw [(zFr_g hF_s11 ha (by decide)), (zFr_g hF_s10 ha (by decide)), e_s9, zU_at (Or.inr (by decide)), e_s8, zU_at (Or.inr (by decide)), e_s7, zU_at (Or.inr (by decide)), (zFr_g hF_s2 ha (by decide))])
          have f27 := zf hS0 ha (k := 23) rfl
          have g28 : s11 a 24 = s0 a 24 := (by rw [(zFr_g hF_s11 ha (by decide)), (zFr_g hF_s10 ha (by decide)), e_s9, zU_at (Or.inr (by decide)), e_s8, zU_at (Or.inr (by decide)), e_s7, zU_at (Or.inr (by decide)), (zFr_g hF_s2 ha (by decide))])
          have f29 := zf hS0 ha (k := 24) rfl
          have g30 : s11 a 38 = s0 a 38 := (by rw [(zFr_g hF_s11 ha (by decide)), (zFr_g hF_s10 ha (by decide)), e_s9, zU_at (Or.inr (by decide)), e_s8, zU_at (Or.inr (by decide)), e_s7, zU_at (Or.inr (by decide)), (zFr_g hF_s2 ha (by decide))])
          have f31 := zf hS0 ha (k := 38) rfl
          have g32 : s11 (gP G a 27) 488 = s0 (gP G a 27) 488 := (by rw [(zFr_g hF_s11 (zr (k := 27) (t2 := 84) hG ha rfl) (by decide)), (zFr_g hF_s10 (zr (k := 27) (t2 := 84) hG ha rfl) (by decide)), e_s9, zU_at (Or.inl (zne ha (zr (k := 27) (t2 := 84) hG ha rfl) (by decide))), e_s8, zU_at (Or.inl (zne ha (zr (k := 27) (t2 := 84) hG ha rfl) (by decide))), e_s7, zU_at (Or.inl (zne ha (zr (k := 27) (t2 := 84) hG ha rfl) (by decide))), (zFr_g hF_s2 (zr (k := 27) (t2 := 84) hG ha rfl) (by decide))])
          have g33 : zc (s11 (gP G a 27)) = zc (s0 (gP G a 27)) := by rw [hF_s11 (gP G a 27) (by rw [(zr (k := 27) (t2 := 84) hG ha rfl)]; decide), hF_s10 (gP G a 27) (by rw [(zr (k := 27) (t2 := 84) hG ha rfl)]; decide), e_s9, zU_ne (zne ha (zr (k := 27) (t2 := 84) hG ha rfl) (by decide)), e_s8, zU_ne (zne ha (zr (k := 27) (t2 := 84) hG ha rfl) (by decide)), e_s7, zU_ne (zne ha (zr (k := 27) (t2 := 84) hG ha rfl) (by decide)), hF_s2 (gP G a 27) (by rw [(zr (k := 27) (t2 := 84) hG ha rfl)]; decide)]
          have c59_12 : ∀ (m_c59_12 : Nat) (s13 : zS), 4000 - s13 a 52 < m_c59_12 → (zSK G s13) → (zFr [13, 84, 87, 95, 98, 101, 102, 103] G s11 s13) → (s13 a 0 = s11 a 0) → (s13 a 3 = s11 a 3) → (s13 a 4 = s11 a 4) → (s13 a 5 = s11 a 5) → (s13 a 7 = s11 a 7) → (s13 a 21 = s11 a 21) → (s13 a 22 = s11 a 22) → (s13 a 23 = s11 a 23) → (s13 a 24 = s11 a 24) → (s13 a 38 = s11 a 38) → (zc (s13 (gP G a 27)) = zc (s11 (gP G a 27))) → (s13 a 51 = -1 → s13 a 52 ≤ 2999) → (zCh (s13 (gP G a 49)) (s13 (gP G a 50)) (s13 a 52 + 1)) → (s13 (gP G a 27) 488 ≤ s11 (gP G a 27) 488 + s13 a 52) → (s13 a 52 ≤ 3000) → JJ X E 2 G s13 0 0 [(0, .ref a)] 59 [] := by
            intro m_c59_12
            induction m_c59_12 with
            | zero => intro s13 hm_c59_12 hS_s13 hF_s13 fA16 fA17 fA18 fA19 fA20 fA21 fA22 fA23 fA24 fA25 fA26 fA27 fA28 fA29 fA30; exfalso; omega
            | succ m_c59_12 ih_c59_12 => 
              intro s13 hm_c59_12 hS_s13 hF_s13 fA16 fA17 fA18 fA19 fA20 fA21 fA22 fA23 fA24 fA25 fA26 fA27 fA28 fA29 fA30
              refine j_aload_n hx 0 dX12_findEnds_59 rfl ?_
              have f34 := zf hS_s13 ha (k := 51) rfl
              refine g13_51 hx hG ha kf_RX12_432 rfl dX12_findEnds_60 ?_
              refine j_iconst hx dX12_findEnds_63 ?_
              refine j_icmp_ne hx 155 dX12_findEnds_64 rfl (by omega) ⟨by decide, by decide⟩ (fun h35 => ?_) (fun h35 => ?_)
              · skip
                refine j_aload_n hx 0 dX12_findEnds_155 rfl ?_
                refine j_iconst hx dX12_findEnds_156 ?_
                refine p13_54 hx hG ha kf_RX12_441 dX12_findEnds_157 ?_
                obtain ⟨s31, e_s31⟩ : ∃ z, z = zU s13 a 54 (-1) := ⟨_, rfl⟩
                rw [← e_s31]
                have hS_s31 : zSK G s31 := by rw [e_s31]; exact zSK_F hS_s13 ha rfl rfl rfl (by omega)
                refine j_iconst hx dX12_findEnds_160 ?_
                refine j_istore_n hx [(1, .int (zI 0)), (0, .ref a)] dX12_findEnds_161 (by decide) rfl ?_
                have g37 : s31 a 0 = s13 a 0 := (by rw [e_s31, zU_at (Or.inr (by decide))])
                have f38 := zf hS_s13 ha (k := 0) rfl
                have g39 : s31 a 3 = s13 a 3 := (by rw [e_s31, zU_at (Or.inr (by decide))])
                have f40 := zf hS_s13 ha (k := 3) rfl
                have g41 : s31 a 4 = s13 a 4 := (by rw [e_s31, zU_at (Or.inr (by decide))])
                have f42 := zf hS_s13 ha (k := 4) rfl
                have g43 : s31 a 5 = s13 a 5 := (by rw [e_s31, zU_at (Or.inr (by decide))])
                have f44 := zf hS_s13 ha (k := 5) rfl
                have g45 : s31 a 7 = s13 a 7 := (by rw [e_s31, zU_at (Or.inr (by decide))])
                have f46 := zf hS_s13 ha (k := 7) rfl
                have g47 : s31 a 21 = s13 a 21 := (by rw [e_s31, zU_at (Or.inr (by decide))])
                have f48 := zf hS_s13 ha (k := 21) rfl
                have g49 : s31 a 22 = s13 a 22 := (by rw [e_s31, zU_at (Or.inr (by decide))])
                have f50 := zf hS_s13 ha (k := 22) rfl
                have g51 : s31 a 23 = s13 a 23 := (by rw [e_s31, zU_at (Or.inr (by decide))])
                have f52 := zf hS_s13 ha (k := 23) rfl
                have g53 : s31 a 24 = s13 a 24 := (by rw [e_s31, zU_at (Or.inr (by decide))])
                have f54 := zf hS_s13 ha (k := 24) rfl
                have g55 : s31 a 38 = s13 a 38 := (by rw [e_s31, zU_at (Or.inr (by decide))])
                have f56 := zf hS_s13 ha (k := 38) rfl
                have g57 : s31 a 51 = s13 a 51 := (by rw [e_s31, zU_at (Or.inr (by decide))])
                have g58 : s31 a 52 = s13 a 52 := (by rw [e_s31, zU_at (Or.inr (by decide))])
                have f59 := zf hS_s13 ha (k := 52) rfl
                have c162_32 : ∀ (m_c162_32 : Nat) (v36 : Int) (s33 : zS), 2147483648 - v36 < m_c162_32 → (0 ≤ v36 ∧ v36 ≤ 3) → (zSK G s33) → (zFr [13] G s31 s33) → (s33 a 0 = s31 a 0) → (s33 a 3 = s31 a 3) → (s33 a 4 = s31 a 4) → (s33 a 5 = s31 a 5) → (s33 a 7 = s31 a 7) → (s33 a 21 = s31 a 21) → (s33 a 22 = s31 a 22) → (s33 a 23 = s31 a 23) → (s33 a 24 = s31 a 24) → (s33 a 38 = s31 a 38) → (s33 a 51 = s31 a 51) → (s33 a 52 = s31 a 52) → JJ X E 2 G s33 0 0 [(0, .ref a), (1, .int (zI v36))] 162 [] := by
                  intro m_c162_32
                  induction m_c162_32 with
                  | zero => intro v36 s33 hm_c162_32 fA34 hS_s33 hF_s33 fA37 fA38 fA39 fA40 fA41 fA42 fA43 fA44 fA45 fA46 fA47 fA48; exfalso; omega
                  | succ m_c162_32 ih_c162_32 => 
                    intro v36 s33 hm_c162_32 fA34 hS_s33 hF_s33 fA37 fA38 fA39 fA40 fA41 fA42 fA43 fA44 fA45 fA46 fA47 fA48
                    refine j_iload_n hx 1 dX12_findEnds_162 rfl ?_
                    refine j_aload_n hx 0 dX12_findEnds_163 rfl ?_
                    have f60 := zf hS_s33 ha (k := 24) rfl
                    refine g13_24 hx hG ha kf_RX12_189 rfl dX12_findEnds_164 ?_
                    refine j_icmp_ge hx 204 dX12_findEnds_167 rfl (by omega) (by omega) (fun h61 => ?_) (fun h61 => ?_)
                    · skip
                      have g62 : zc (s33 (gP G a 27)) = zc (s13 (gP G a 27)) := by rw [hF_s33 (gP G a 27) (by rw [(zr (k := 27) (t2 := 84) hG ha rfl)]; decide), e_s31, zU_ne (zne ha (zr (k := 27) (t2 := 84) hG ha rfl) (by decide))]
                      have f63 := zf hS_s33 ha (k := 0) rfl
                      have f64 := zf hS_s33 ha (k := 3) rfl
                      have f65 := zf hS_s33 ha (k := 4) rfl
                      have f66 := zf hS_s33 ha (k := 5) rfl
                      have f67 := zf hS_s33 ha (k := 7) rfl
                      have f68 := zf hS_s33 ha (k := 21) rfl
                      have f69 := zf hS_s33 ha (k := 22) rfl
                      have f70 := zf hS_s33 ha (k := 23) rfl
                      have f71 := zf hS_s33 ha (k := 38) rfl
                      exact j_vret hx hq rfl (by decide) (by decide) dX12_findEnds_204 ⟨rfl, rfl, hS_s33, (zFr_t (zFr_u (zFr_t (zFr_t (zFr_t (zFr_u (zFr_u (zFr_u (zFr_t zFr_rf hF_s2 (by decide)) e_s7 ha (by decide)) e_s8 ha (by decide)) e_s9 ha (by decide)) hF_s10 (by decide)) hF_s11 (by decide)) hF_s13 (by decide)) e_s31 ha (by decide)) hF_s33 (by decide)), ⟨by omega, by omega, by omega, by omega, by omega, by omega, by omega, by omega, by omega, by omega, by omega⟩⟩
                    · skip
                      refine j_aload_n hx 0 dX12_findEnds_170 rfl ?_
                      have f72 := zf hS_s33 ha (k := 51) rfl
                      refine g13_51 hx hG ha kf_RX12_432 rfl dX12_findEnds_171 ?_
                      refine j_iconst hx dX12_findEnds_174 ?_
                      refine j_icmp_ne hx 204 dX12_findEnds_175 rfl (by omega) ⟨by decide, by decide⟩ (fun h73 => ?_) (fun h73 => ?_)
                      · skip
                        have g74 : zc (s33 (gP G a 27)) = zc (s13 (gP G a 27)) := by rw [hF_s33 (gP G a 27) (by rw [(zr (k := 27) (t2 := 84) hG ha rfl)]; decide), e_s31, zU_ne (zne ha (zr (k := 27) (t2 := 84) hG ha rfl) (by decide))]
                        have f75 := zf hS_s33 ha (k := 0) rfl
                        have f76 := zf hS_s33 ha (k := 3) rfl
                        have f77 := zf hS_s33 ha (k := 4) rfl
                        have f78 := zf hS_s33 ha (k := 5) rfl
                        have f79 := zf hS_s33 ha (k := 7) rfl
                        have f80 := zf hS_s33 ha (k := 21) rfl
                        have f81 := zf hS_s33 ha (k := 22) rfl
                        have f82 := zf hS_s33 ha (k := 23) rfl
                        have f83 := zf hS_s33 ha (k := 38) rfl
                        exact j_vret hx hq rfl (by decide) (by decide) dX12_findEnds_204 ⟨rfl, rfl, hS_s33, (zFr_t (zFr_u (zFr_t (zFr_t (zFr_t (zFr_u (zFr_u (zFr_u (zFr_t zFr_rf hF_s2 (by decide)) e_s7 ha (by decide)) e_s8 ha (by decide)) e_s9 ha (by decide)) hF_s10 (by decide)) hF_s11 (by decide)) hF_s13 (by decide)) e_s31 ha (by decide)) hF_s33 (by decide)), ⟨by omega, by omega, by omega, by omega, by omega, by omega, by omega, by omega, by omega, by omega, by omega⟩⟩
                      · skip
                        refine j_aload_n hx 0 dX12_findEnds_178 rfl ?_
                        refine j_aload_n hx 0 dX12_findEnds_179 rfl ?_
                        refine j_iload_n hx 1 dX12_findEnds_180 rfl ?_
                        refine j_callV hx hG (c_X12_isOut hst a v36) lk_RX12_325 ha (by decide) rfl rfl rfl rfl [.int (zI v36)] ⟨rfl, hG, hS_s33, ha, (by omega)⟩ rfl rfl ⟨by decide, by decide⟩ ⟨by decide, by decide⟩ (k2 := 0) (n2 := 0) rfl rfl (Nat.le_of_ble_eq_true rfl) dX12_findEnds_181 (kIP (fun v84 q85 => ?_))
                        refine j_if_eq hx 194 dX12_findEnds_184 rfl (by omega) (fun h86 => ?_) (fun h86 => ?_)
                        · skip
                          refine j_iload_n hx 1 dX12_findEnds_194 rfl ?_
                          refine p13_54 hx hG ha kf_RX12_441 dX12_findEnds_195 ?_
                          obtain ⟨s49, e_s49⟩ : ∃ z, z = zU s33 a 54 v36 := ⟨_, rfl⟩
                          rw [← e_s49]
                          have hS_s49 : zSK G s49 := by rw [e_s49]; exact zSK_F hS_s33 ha rfl rfl rfl (by omega)
                          refine j_iinc hx 1 [(1, .int (zI (v36 + 1))), (0, .ref a)] dX12_findEnds_198 rfl (by omega) (by decide) rfl ?_
                          refine j_goto hx 162 dX12_findEnds_201 rfl ?_
                          have g87 : s49 a 0 = s33 a 0 := (by rw [e_s49, zU_at (Or.inr (by decide))])
                          have f88 := zf hS_s33 ha (k := 0) rfl
                          have g89 : s49 a 3 = s33 a 3 := (by rw [e_s49, zU_at (Or.inr (by decide))])
                          have f90 := zf hS_s33 ha (k := 3) rfl
                          have g91 : s49 a 4 = s33 a 4 := (by rw [e_s49, zU_at (Or.inr (by decide))])
                          have f92 := zf hS_s33 ha (k := 4) rfl
                          have g93 : s49 a 5 = s33 a 5 := (by rw [e_s49, zU_at (Or.inr (by decide))])
                          have f94 := zf hS_s33 ha (k := 5) rfl
                          have g95 : s49 a 7 = s33 a 7 := (by rw [e_s49, zU_at (Or.inr (by decide))])
                          have f96 := zf hS_s33 ha (k := 7) rfl
                          have g97 : s49 a 21 = s33 a 21 := (by rw [e_s49, zU_at (Or.inr (by decide))])
                          have f98 := zf hS_s33 ha (k := 21) rfl
                          have g99 : s49 a 22 = s33 a 22 := (by rw [e_s49, zU_at (Or.inr (by decide))])
                          have f100 := zf hS_s33 ha (k := 22) rfl
                          have g101 : s49 a 23 = s33 a 23 := (by rw [e_s49, zU_at (Or.inr (by decide))])
                          have f102 := zf hS_s33 ha (k := 23) rfl
                          have g103 : s49 a 24 = s33 a 24 := (by rw [e_s49, zU_at (Or.inr (by decide))])
                          have g104 : s49 a 38 = s33 a 38 := (by rw [e_s49, zU_at (Or.inr (by decide))])
                          have f105 := zf hS_s33 ha (k := 38) rfl
                          have g106 : s49 a 51 = s33 a 51 := (by rw [e_s49, zU_at (Or.inr (by decide))])
                          have g107 : s49 a 52 = s33 a 52 := (by rw [e_s49, zU_at (Or.inr (by decide))])
                          have f108 := zf hS_s33 ha (k := 52) rfl
                          exact j_sub [1, 0] [(0, .ref a), (1, .int (zI (v36 + 1)))] rfl (ih_c162_32 (v36 + 1) s49 (by omega) (by omega) hS_s49 (zFr_u (zFr_t zFr_rf hF_s33 (by decide)) e_s49 ha (by decide)) (by omega) (by omega) (by omega) (by omega) (by omega) (by omega) (by omega) (by omega) (by omega) (by omega) (by omega) (by omega))
                        · skip
                          refine j_aload_n hx 0 dX12_findEnds_187 rfl ?_
                          have f109 := zf hS_s33 ha (k := 54) rfl
                          refine g13_54 hx hG ha kf_RX12_441 rfl dX12_findEnds_188 ?_
                          refine j_goto hx 195 dX12_findEnds_191 rfl ?_
                          refine p13_54 hx hG ha kf_RX12_441 dX12_findEnds_195 ?_
                          obtain ⟨s50, e_s50⟩ : ∃ z, z = zU s33 a 54 ((s33 a 54)) := ⟨_, rfl⟩
                          rw [← e_s50]
                          have hS_s50 : zSK G s50 := by rw [e_s50]; exact zSK_F hS_s33 ha rfl rfl rfl (by omega)
                          refine j_iinc hx 1 [(1, .int (zI (v36 + 1))), (0, .ref a)] dX12_findEnds_198 rfl (by omega) (by decide) rfl ?_
                          refine j_goto hx 162 dX12_findEnds_201 rfl ?_
                          have g110 : s50 a 0 = s33 a 0 := (by rw [e_s50, zU_at (Or.inr (by decide))])
                          have f111 := zf hS_s33 ha (k := 0) rfl
                          have g112 : s50 a 3 = s33 a 3 := (by rw [e_s50, zU_at (Or.inr (by decide))])
                          have f113 := zf hS_s33 ha (k := 3) rfl
                          have g114 : s50 a 4 = s33 a 4 := (by rw [e_s50, zU_at (Or.inr (by decide))])
                          have f115 := zf hS_s33 ha (k := 4) rfl
                          have g116 : s50 a 5 = s33 a 5 := (by rw [e_s50, zU_at (Or.inr (by decide))])
                          have f117 := zf hS_s33 ha (k := 5) rfl
                          have g118 : s50 a 7 = s33 a 7 := (by rw [e_s50, zU_at (Or.inr (by decide))])
                          have f119 := zf hS_s33 ha (k := 7) rfl
                          have g120 : s50 a 21 = s33 a 21 := (by rw [e_s50, zU_at (Or.inr (by decide))])
                          have f121 := zf hS_s33 ha (k := 21) rfl
                          have g122 : s50 a 22 = s33 a 22 := (by rw [e_s50, zU_at (Or.inr (by decide))])
                          have f123 := zf hS_s33 ha (k := 22) rfl
                          have g124 : s50 a 23 = s33 a 23 := (by rw [e_s50, zU_at (Or.inr (by decide))])
                          have f125 := zf hS_s33 ha (k := 23) rfl
                          have g126 : s50 a 24 = s33 a 24 := (by rw [e_s50, zU_at (Or.inr (by decide))])
                          have g127 : s50 a 38 = s33 a 38 := (by rw [e_s50, zU_at (Or.inr (by decide))])
                          have f128 := zf hS_s33 ha (k := 38) rfl
                          have g129 : s50 a 51 = s33 a 51 := (by rw [e_s50, zU_at (Or.inr (by decide))])
                          have g130 : s50 a 52 = s33 a 52 := (by rw [e_s50, zU_at (Or.inr (by decide))])
                          have f131 := zf hS_s33 ha (k := 52) rfl
                          exact j_sub [1, 0] [(0, .ref a), (1, .int (zI (v36 + 1)))] rfl (ih_c162_32 (v36 + 1) s50 (by omega) (by omega) hS_s50 (zFr_u (zFr_t zFr_rf hF_s33 (by decide)) e_s50 ha (by decide)) (by omega) (by omega) (by omega) (by omega) (by omega) (by omega) (by omega) (by omega) (by omega) (by omega) (by omega) (by omega))
                exact j_sub [1, 0] [(0, .ref a), (1, .int (zI 0))] rfl (c162_32 (2147483648 * 4) 0 s31 (by omega) (by omega) hS_s31 zFr_rf (by omega) (by omega) (by omega) (by omega) (by omega) (by omega) (by omega) (by omega) (by omega) (by omega) (by omega) (by omega))
              · skip
                refine j_aload_n hx 0 dX12_findEnds_67 rfl ?_
                have f132 := zf hS_s13 ha (k := 0) rfl
                have f133 := zf hS_s13 ha (k := 3) rfl
                have f134 := zf hS_s13 ha (k := 4) rfl
                have f135 := zf hS_s13 ha (k := 5) rfl
                have f136 := zf hS_s13 ha (k := 7) rfl
                have f137 := zf hS_s13 ha (k := 21) rfl
                have f138 := zf hS_s13 ha (k := 22) rfl
                have f139 := zf hS_s13 ha (k := 23) rfl
                have f140 := zf hS_s13 ha (k := 24) rfl
                have f141 := zf hS_s13 ha (k := 38) rfl
                have f142 := zf hS_s13 ha (k := 52) rfl
                refine j_callV hx hG (c_X12_turn hst a) lk_RX12_412 ha (by decide) rfl rfl rfl rfl [] ⟨rfl, hG, hS_s13, ha, (by omega), ((by have q1 : s13 (gP G a 34) = s0 (gP G a 34) := (by rw [hF_s13 (gP G a 34) (by rw [(zr (k := 34) (t2 := 91) hG ha rfl)]; decide), hF_s11 (gP G a 34) (by rw [(zr (k := 34) (t2 := 91) hG ha rfl)]; decide), hF_s10 (gP G a 34) (by rw [(zr (k := 34) (t2 := 91) hG ha rfl)]; decide), e_s9, zU_ne (zne ha (zr (k := 34) (t2 := 91) hG ha rfl) (by decide)), e_s8, zU_ne (zne ha (zr (k := 34) (t2 := 91) hG ha rfl) (by decide)), e_s7, zU_ne (zne ha (zr (k := 34) (t2 := 91) hG ha rfl) (by decide)), hF_s2 (gP G a 34) (by rw [(zr (k := 34) (t2 := 91) hG ha rfl)]; decide)]); have q2 : s13 (gP G a 35) = s0 (gP G a 35) := (by rw [hF_s13 (gP G a 35) (by rw [(zr (k := 35) (t2 := 92) hG ha rfl)]; decide), hF_s11 (gP G a 35) (by rw [(zr (k := 35) (t2 := 92) hG ha rfl)]; decide), hF_s10 (gP G a 35) (by rw [(zr (k := 35) (t2 := 92) hG ha rfl)]; decide), e_s9, zU_ne (zne ha (zr (k := 35) (t2 := 92) hG ha rfl) (by decide)), e_s8, zU_ne (zne ha (zr (k := 35) (t2 := 92) hG ha rfl) (by decide)), e_s7, zU_ne (zne ha (zr (k := 35) (t2 := 92) hG ha rfl) (by decide)), hF_s2 (gP G a 35) (by rw [(zr (k := 35) (t2 := 92) hG ha rfl)]; decide)]); have q3 : s13 (gP G a 37) = s0 (gP G a 37) := (by rw [hF_s13 (gP G a 37) (by rw [(zr (k := 37) (t2 := 94) hG ha rfl)]; decide), hF_s11 (gP G a 37) (by rw [(zr (k := 37) (t2 := 94) hG ha rfl)]; decide), hF_s10 (gP G a 37) (by rw [(zr (k := 37) (t2 := 94) hG ha rfl)]; decide), e_s9, zU_ne (zne ha (zr (k := 37) (t2 := 94) hG ha rfl) (by decide)), e_s8, zU_ne (zne ha (zr (k := 37) (t2 := 94) hG ha rfl) (by decide)), e_s7, zU_ne (zne ha (zr (k := 37) (t2 := 94) hG ha rfl) (by decide)), hF_s2 (gP G a 37) (by rw [(zr (k := 37) (t2 := 94) hG ha rfl)]; decide)]); rw [q1, q2, q3]; exact e1)), (by omega)⟩ rfl rfl ⟨by decide, by decide⟩ ⟨by decide, by decide⟩ (k2 := 0) (n2 := 0) rfl rfl (Nat.le_of_ble_eq_true rfl) dX12_findEnds_68 (kIM (fun v143 s51 hS_s51 hF_s51 q144 => ?_))
                refine j_pop hx dX12_findEnds_71 rfl ?_
                refine j_aload_n hx 0 dX12_findEnds_72 rfl ?_
                refine j_dup hx dX12_findEnds_73 rfl ?_
                have f145 := zf hS_s51 ha (k := 52) rfl
                refine g13_52 hx hG ha kf_RX12_429 rfl dX12_findEnds_74 ?_
                refine j_iconst hx dX12_findEnds_77 ?_
                refine j_iadd hx (r := (s51 a 52) + 1) dX12_findEnds_78 (by omega) ?_
                refine p13_52 hx hG ha kf_RX12_429 dX12_findEnds_79 ?_
                obtain ⟨s52, e_s52⟩ : ∃ z, z = zU s51 a 52 ((s51 a 52) + 1) := ⟨_, rfl⟩
                rw [← e_s52]
                have hS_s52 : zSK G s52 := by rw [e_s52]; exact zSK_F hS_s51 ha rfl rfl rfl (by omega)
                refine j_aload_n hx 0 dX12_findEnds_82 rfl ?_
                refine j_aload_n hx 0 dX12_findEnds_83 rfl ?_
                refine g13_52 hx hG ha kf_RX12_429 (v := (s51 a 52) + 1) (by rw [e_s52, zU_eq]) dX12_findEnds_84 ?_
                have g146 : zc (s52 (gP G a 27)) = zc (s51 (gP G a 27)) := by rw [e_s52, zU_ne (zne ha (zr (k := 27) (t2 := 84) hG ha rfl) (by decide))]
                refine j_callV hx hG (c_X12_writes hst a ((s51 a 52) + 1)) lk_RX12_435 ha (by decide) rfl rfl rfl rfl [.int (zI ((s51 a 52) + 1))] ⟨rfl, hG, hS_s52, ha, (by omega), (by omega)⟩ rfl rfl ⟨by decide, by decide⟩ ⟨by decide, by decide⟩ (k2 := 0) (n2 := 0) rfl rfl (Nat.le_of_ble_eq_true rfl) dX12_findEnds_87 (kVM (fun s53 hS_s53 hF_s53 q148 => ?_))
                refine j_aload_n hx 0 dX12_findEnds_90 rfl ?_
                refine j_aload_n hx 0 dX12_findEnds_91 rfl ?_
                refine g13_52 hx hG ha kf_RX12_429 (v := (s51 a 52) + 1) (by rw [(zFr_g hF_s53 ha (by decide)), e_s52, zU_eq]) dX12_findEnds_92 ?_
                refine j_callV hx hG (c_X12_earlier hst a ((s51 a 52) + 1)) lk_RX12_438 ha (by decide) rfl rfl rfl rfl [.int (zI ((s51 a 52) + 1))] ⟨rfl, hG, hS_s53, ha, (by omega), ((by have q1 : s53 (gP G a 34) = s0 (gP G a 34) := (by rw [hF_s53 (gP G a 34) (by rw [(zr (k := 34) (t2 := 91) hG ha rfl)]; decide), e_s52, zU_ne (zne ha (zr (k := 34) (t2 := 91) hG ha rfl) (by decide)), hF_s51 (gP G a 34) (by rw [(zr (k := 34) (t2 := 91) hG ha rfl)]; decide), hF_s13 (gP G a 34) (by rw [(zr (k := 34) (t2 := 91) hG ha rfl)]; decide), hF_s11 (gP G a 34) (by rw [(zr (k := 34) (t2 := 91) hG ha rfl)]; decide), hF_s10 (gP G a 34) (by rw [(zr (k := 34) (t2 := 91) hG ha rfl)]; decide), e_s9, zU_ne (zne ha (zr (k := 34) (t2 := 91) hG ha rfl) (by decide)), e_s8, zU_ne (zne ha (zr (k := 34) (t2 := 91) hG ha rfl) (by decide)), e_s7, zU_ne (zne ha (zr (k := 34) (t2 := 91) hG ha rfl) (by decide)), hF_s2 (gP G a 34) (by rw [(zr (k := 34) (t2 := 91) hG ha rfl)]; decide)]); have q2 : s53 (gP G a 35) = s0 (gP G a 35) := (by rw [hF_s53 (gP G a 35) (by rw [(zr (k := 35) (t2 := 92) hG ha rfl)]; decide), e_s52, zU_ne (zne ha (zr (k := 35) (t2 := 92) hG ha rfl) (by decide)), hF_s51 (gP G a 35) (by rw [(zr (k := 35) (t2 := 92) hG ha rfl)]; decide), hF_s13 (gP G a 35) (by rw [(zr (k := 35) (t2 := 92) hG ha rfl)]; decide), hF_s11 (gP G a 35) (by rw [(zr (k := 35) (t2 := 92) hG ha rfl)]; decide), hF_s10 (gP G a 35) (by rw [(zr (k := 35) (t2 := 92) hG ha rfl)]; decide), e_s9, zU_ne (zne ha (zr (k := 35) (t2 := 92) hG ha rfl) (by decide)), e_s8, zU_ne (zne ha (zr (k := 35) (t2 := 92) hG ha rfl) (by decide)), e_s7, zU_ne (zne ha (zr (k := 35) (t2 := 92) hG ha rfl) (by decide)), hF_s2 (gP G a 35) (by rw [(zr (k := 35) (t2 := 92) hG ha rfl)]; decide)]); have q3 : s53 (gP G a 37) = s0 (gP G a 37) := (by rw [hF_s53 (gP G a 37) (by rw [(zr (k := 37) (t2 := 94) hG ha rfl)]; decide), e_s52, zU_ne (zne ha (zr (k := 37) (t2 := 94) hG ha rfl) (by decide)), hF_s51 (gP G a 37) (by rw [(zr (k := 37) (t2 := 94) hG ha rfl)]; decide), hF_s13 (gP G a 37) (by rw [(zr (k := 37) (t2 := 94) hG ha rfl)]; decide), hF_s11 (gP G a 37) (by rw [(zr (k := 37) (t2 := 94) hG ha rfl)]; decide), hF_s10 (gP G a 37) (by rw [(zr (k := 37) (t2 := 94) hG ha rfl)]; decide), e_s9, zU_ne (zne ha (zr (k := 37) (t2 := 94) hG ha rfl) (by decide)), e_s8, zU_ne (zne ha (zr (k := 37) (t2 := 94) hG ha rfl) (by decide)), e_s7, zU_ne (zne ha (zr (k := 37) (t2 := 94) hG ha rfl) (by decide)), hF_s2 (gP G a 37) (by rw [(zr (k := 37) (t2 := 94) hG ha rfl)]; decide)]); rw [q1, q2, q3]; exact e1)), ((by have q1 : s53 (gP G a 49) = s13 (gP G a 49) := (by rw [hF_s53 (gP G a 49) (by rw [(zr (k := 49) (t2 := 102) hG ha rfl)]; decide), e_s52, zU_ne (zne ha (zr (k := 49) (t2 := 102) hG ha rfl) (by decide)), hF_s51 (gP G a 49) (by rw [(zr (k := 49) (t2 := 102) hG ha rfl)]; decide)]); have q2 : s53 (gP G a 50) = s13 (gP G a 50) := (by rw [hF_s53 (gP G a 50) (by rw [(zr (k := 50) (t2 := 103) hG ha rfl)]; decide), e_s52, zU_ne (zne ha (zr (k := 50) (t2 := 103) hG ha rfl) (by decide)), hF_s51 (gP G a 50) (by rw [(zr (k := 50) (t2 := 103) hG ha rfl)]; decide)]); rw [q1, q2]; exact (zCh_n fA28 (by omega))))⟩ rfl rfl ⟨by decide, by decide⟩ ⟨by decide, by decide⟩ (k2 := 0) (n2 := 0) rfl rfl (Nat.le_of_ble_eq_true rfl) dX12_findEnds_95 (kIM (fun v149 s54 hS_s54 hF_s54 q150 => ?_))
                refine j_istore_n hx [(1, .int (zI v149)), (0, .ref a)] dX12_findEnds_98 (by decide) rfl ?_
                refine j_aload_n hx 1 dX12_findEnds_99 rfl ?_
                refine j_callV hx hG (c_X12_isOver hst a) lk_RX12_328 ha (by decide) rfl rfl rfl rfl [] ⟨rfl, hG, hS_s54, ha⟩ rfl rfl ⟨by decide, by decide⟩ ⟨by decide, by decide⟩ (k2 := 0) (n2 := 0) rfl rfl (Nat.le_of_ble_eq_true rfl) dX12_findEnds_100 (kIP (fun v151 q152 => ?_))
                refine j_if_eq hx 114 dX12_findEnds_103 rfl (by omega) (fun h153 => ?_) (fun h153 => ?_)
                · skip
                  refine j_iload_n hx 0 dX12_findEnds_114 rfl ?_
                  refine j_iconst hx dX12_findEnds_115 ?_
                  refine j_icmp_eq hx 137 dX12_findEnds_116 rfl (by omega) ⟨by decide, by decide⟩ (fun h154 => ?_) (fun h154 => ?_)
                  · skip
                    refine j_aload_n hx 1 dX12_findEnds_137 rfl ?_
                    refine g13_52 hx hG ha kf_RX12_429 (v := (s51 a 52) + 1) (by rw [(zFr_g hF_s54 ha (by decide)), (zFr_g hF_s53 ha (by decide)), e_s52, zU_eq]) dX12_findEnds_138 ?_
                    refine j_sipush hx dX12_findEnds_141 rfl ?_
                    refine j_icmp_ne hx 152 dX12_findEnds_144 rfl (by omega) ⟨by decide, by decide⟩ (fun h155 => ?_) (fun h155 => ?_)
                    · skip
                      refine j_goto hx 59 dX12_findEnds_152 rfl ?_
                      have g156 : s54 a 52 = (s51 a 52) + 1 := (by rw [(zFr_g hF_s54 ha (by decide)), (zFr_g hF_s53 ha (by decide)), e_s52, zU_eq])
                      have g157 : s54 a 0 = s51 a 0 := (by rw [(zFr_g hF_s54 ha (by decide)), (zFr_g hF_s53 ha (by decide)), e_s52, zU_at (Or.inr (by decide))])
                      have f158 := zf hS_s51 ha (k := 0) rfl
                      have g159 : s54 a 3 = s51 a 3 := (by rw [(zFr_g hF_s54 ha (by decide)), (zFr_g hF_s53 ha (by decide)), e_s52, zU_at (Or.inr (by decide))])
                      have f160 := zf hS_s51 ha (k := 3) rfl
                      have g161 : s54 a 4 = s51 a 4 := (by rw [(zFr_g hF_s54 ha (by decide)), (zFr_g hF_s53 ha (by decide)), e_s52, zU_at (Or.inr (by decide))])
                      have f162 := zf hS_s51 ha (k := 4) rfl
                      have g163 : s54 a 5 = s51 a 5 := (by rw [(zFr_g hF_s54 ha (by decide)), (zFr_g hF_s53 ha (by decide)), e_s52, zU_at (Or.inr (by decide))])
                      have f164 := zf hS_s51 ha (k := 5) rfl
                      have g165 : s54 a 7 = s51 a 7 := (by rw [(zFr_g hF_s54 ha (by decide)), (zFr_g hF_s53 ha (by decide)), e_s52, zU_at (Or.inr (by decide))])
                      have f166 := zf hS_s51 ha (k := 7) rfl
                      have g167 : s54 a 21 = s51 a 21 := (by rw [(zFr_g hF_s54 ha (by decide)), (zFr_g hF_s53 ha (by decide)), e_s52, zU_at (Or.inr (by decide))])
                      have f168 := zf hS_s51 ha (k := 21) rfl
                      have g169 : s54 a 22 = s51 a 22 := (by rw [(zFr_g hF_s54 ha (by decide)), (zFr_g hF_s53 ha (by decide)), e_s52, zU_at (Or.inr (by decide))])
                      have f170 := zf hS_s51 ha (k := 22) rfl
                      have g171 : s54 a 23 = s51 a 23 := (by rw [(zFr_g hF_s54 ha (by decide)), (zFr_g hF_s53 ha (by decide)), e_s52, zU_at (Or.inr (by decide))])
                      have f172 := zf hS_s51 ha (k := 23) rfl
                      have g173 : s54 a 24 = s51 a 24 := (by rw [(zFr_g hF_s54 ha (by decide)), (zFr_g hF_s53 ha (by decide)), e_s52, zU_at (Or.inr (by decide))])
                      have f174 := zf hS_s51 ha (k := 24) rfl
                      have g175 : s54 a 38 = s51 a 38 := (by rw [(zFr_g hF_s54 ha (by decide)), (zFr_g hF_s53 ha (by decide)), e_s52, zU_at (Or.inr (by decide))])
                      have f176 := zf hS_s51 ha (k := 38) rfl
                      have g177 : zc (s54 (gP G a 27)) = zc (s51 (gP G a 27)) := by rw [hF_s54 (gP G a 27) (by rw [(zr (k := 27) (t2 := 84) hG ha rfl)]; decide), hF_s53 (gP G a 27) (by rw [(zr (k := 27) (t2 := 84) hG ha rfl)]; decide), e_s52, zU_ne (zne ha (zr (k := 27) (t2 := 84) hG ha rfl) (by decide))]
                      have g178 : s54 a 51 = s51 a 51 := (by rw [(zFr_g hF_s54 ha (by decide)), (zFr_g hF_s53 ha (by decide)), e_s52, zU_at (Or.inr (by decide))])
                      have f179 := zf hS_s51 ha (k := 51) rfl
                      have g180 : s54 (gP G a 27) 488 = s51 (gP G a 27) 488 := (by rw [(zFr_g hF_s54 (zr (k := 27) (t2 := 84) hG ha rfl) (by decide)), (zFr_g hF_s53 (zr (k := 27) (t2 := 84) hG ha rfl) (by decide)), e_s52, zU_at (Or.inl (zne ha (zr (k := 27) (t2 := 84) hG ha rfl) (by decide)))])
                      exact j_sub [1] [(0, .ref a)] rfl (ih_c59_12 s54 (by omega) hS_s54 (zFr_t (zFr_t (zFr_u (zFr_t (zFr_t zFr_rf hF_s13 (by decide)) hF_s51 (by decide)) e_s52 ha (by decide)) hF_s53 (by decide)) hF_s54 (by decide)) (by omega) (by omega) (by omega) (by omega) (by omega) (by omega) (by omega) (by omega) (by omega) (by omega) (by omega) (by omega) (zCh_n q150.2 (by omega)) (by omega) (by omega))
                    · skip
                      refine j_aload_n hx 1 dX12_findEnds_147 rfl ?_
                      refine j_iconst hx dX12_findEnds_148 ?_
                      refine p13_51 hx hG ha kf_RX12_432 dX12_findEnds_149 ?_
                      obtain ⟨s55, e_s55⟩ : ∃ z, z = zU s54 a 51 0 := ⟨_, rfl⟩
                      rw [← e_s55]
                      have hS_s55 : zSK G s55 := by rw [e_s55]; exact zSK_F hS_s54 ha rfl rfl rfl (by omega)
                      refine j_goto hx 59 dX12_findEnds_152 rfl ?_
                      have g181 : s55 a 52 = (s51 a 52) + 1 := (by rw [e_s55, zU_at (Or.inr (by decide)), (zFr_g hF_s54 ha (by decide)), (zFr_g hF_s53 ha (by decide)), e_s52, zU_eq])
                      have g182 : s55 a 0 = s51 a 0 := (by rw [e_s55, zU_at (Or.inr (by decide)), (zFr_g hF_s54 ha (by decide)), (zFr_g hF_s53 ha (by decide)), e_s52, zU_at (Or.inr (by decide))])
                      have f183 := zf hS_s51 ha (k := 0) rfl
                      have g184 : s55 a 3 = s51 a 3 := (by rw [e_s55, zU_at (Or.inr (by decide)), (zFr_g hF_s54 ha (by decide)), (zFr_g hF_s53 ha (by decide)), e_s52, zU_at (Or.inr (by decide))])
                      have f185 := zf hS_s51 ha (k := 3) rfl
                      have g186 : s55 a 4 = s51 a 4 := (by rw [e_s55, zU_at (Or.inr (by decide)), (zFr_g hF_s54 ha (by decide)), (zFr_g hF_s53 ha (by decide)), e_s52, zU_at (Or.inr (by decide))])
                      have f187 := zf hS_s51 ha (k := 4) rfl
                      have g188 : s55 a 5 = s51 a 5 := (by rw [e_s55, zU_at (Or.inr (by decide)), (zFr_g hF_s54 ha (by decide)), (zFr_g hF_s53 ha (by decide)), e_s52, zU_at (Or.inr (by decide))])
                      have f189 := zf hS_s51 ha (k := 5) rfl
                      have g190 : s55 a 7 = s51 a 7 := (by rw [e_s55, zU_at (Or.inr (by decide)), (zFr_g hF_s54 ha (by decide)), (zFr_g hF_s53 ha (by decide)), e_s52, zU_at (Or.inr (by decide))])
                      have f191 := zf hS_s51 ha (k := 7) rfl
                      have g192 : s55 a 21 = s51 a 21 := (by rw [e_s55, zU_at (Or.inr (by decide)), (zFr_g hF_s54 ha (by decide)), (zFr_g hF_s53 ha (by decide)), e_s52, zU_at (Or.inr (by decide))])
                      have f193 := zf hS_s51 ha (k := 21) rfl
                      have g194 : s55 a 22 = s51 a 22 := (by rw [e_s55, zU_at (Or.inr (by decide)), (zFr_g hF_s54 ha (by decide)), (zFr_g hF_s53 ha (by decide)), e_s52, zU_at (Or.inr (by decide))])
                      have f195 := zf hS_s51 ha (k := 22) rfl
                      have g196 : s55 a 23 = s51 a 23 := (by rw [e_s55, zU_at (Or.inr (by decide)), (zFr_g hF_s54 ha (by decide)), (zFr_g hF_s53 ha (by decide)), e_s52, zU_at (Or.inr (by decide))])
                      have f197 := zf hS_s51 ha (k := 23) rfl
                      have g198 : s55 a 24 = s51 a 24 := (by rw [e_s55, zU_at (Or.inr (by decide)), (zFr_g hF_s54 ha (by decide)), (zFr_g hF_s53 ha (by decide)), e_s52, zU_at (Or.inr (by decide))])
                      have f199 := zf hS_s51 ha (k := 24) rfl
                      have g200 : s55 a 38 = s51 a 38 := (by rw [e_s55, zU_at (Or.inr (by decide)), (zFr_g hF_s54 ha (by decide)), (zFr_g hF_s53 ha (by decide)), e_s52, zU_at (Or.inr (by decide))])
                      have f201 := zf hS_s51 ha (k := 38) rfl
                      have g202 : zc (s55 (gP G a 27)) = zc (s51 (gP G a 27)) := by rw [e_s55, zU_ne (zne ha (zr (k := 27) (t2 := 84) hG ha rfl) (by decide)), hF_s54 (gP G a 27) (by rw [(zr (k := 27) (t2 := 84) hG ha rfl)]; decide), hF_s53 (gP G a 27) (by rw [(zr (k := 27) (t2 := 84) hG ha rfl)]; decide), e_s52, zU_ne (zne ha (zr (k := 27) (t2 := 84) hG ha rfl) (by decide))]
                      have g203 : s55 a 51 = 0 := (by rw [e_s55, zU_eq])
                      have g204 : s55 (gP G a 27) 488 = s51 (gP G a 27) 488 := (by rw [e_s55, zU_at (Or.inl (zne ha (zr (k := 27) (t2 := 84) hG ha rfl) (by decide))), (zFr_g hF_s54 (zr (k := 27) (t2 := 84) hG ha rfl) (by decide)), (zFr_g hF_s53 (zr (k := 27) (t2 := 84) hG ha rfl) (by decide)), e_s52, zU_at (Or.inl (zne ha (zr (k := 27) (t2 := 84) hG ha rfl) (by decide)))])
                      exact j_sub [1] [(0, .ref a)] rfl (ih_c59_12 s55 (by omega) hS_s55 (zFr_u (zFr_t (zFr_t (zFr_u (zFr_t (zFr_t zFr_rf hF_s13 (by decide)) hF_s51 (by decide)) e_s52 ha (by decide)) hF_s53 (by decide)) hF_s54 (by decide)) e_s55 ha (by decide)) (by omega) (by omega) (by omega) (by omega) (by omega) (by omega) (by omega) (by omega) (by omega) (by omega) (by omega) (by omega) (by have q1 : s55 (gP G a 49) = s54 (gP G a 49) := (by rw [e_s55, zU_ne (zne ha (zr (k := 49) (t2 := 102) hG ha rfl) (by decide))]); have q2 : s55 (gP G a 50) = s54 (gP G a 50) := (by rw [e_s55, zU_ne (zne ha (zr (k := 50) (t2 := 103) hG ha rfl) (by decide))]); rw [q1, q2]; exact (zCh_n q150.2 (by omega))) (by omega) (by omega))
                  · skip
                    refine j_aload_n hx 1 dX12_findEnds_119 rfl ?_
                    refine j_iconst hx dX12_findEnds_120 ?_
                    refine p13_51 hx hG ha kf_RX12_432 dX12_findEnds_121 ?_
                    obtain ⟨s56, e_s56⟩ : ∃ z, z = zU s54 a 51 2 := ⟨_, rfl⟩
                    rw [← e_s56]
                    have hS_s56 : zSK G s56 := by rw [e_s56]; exact zSK_F hS_s54 ha rfl rfl rfl (by omega)
                    refine j_aload_n hx 1 dX12_findEnds_124 rfl ?_
                    refine j_aload_n hx 1 dX12_findEnds_125 rfl ?_
                    refine g13_52 hx hG ha kf_RX12_429 (v := (s51 a 52) + 1) (by rw [e_s56, zU_at (Or.inr (by decide)), (zFr_g hF_s54 ha (by decide)), (zFr_g hF_s53 ha (by decide)), e_s52, zU_eq]) dX12_findEnds_126 ?_
                    refine j_iload_n hx 0 dX12_findEnds_129 rfl ?_
                    refine j_isub hx (r := (s51 a 52) - v149 + 1) dX12_findEnds_130 (by omega) ?_
                    refine p13_53 hx hG ha kf_RX12_426 dX12_findEnds_131 ?_
                    obtain ⟨s57, e_s57⟩ : ∃ z, z = zU s56 a 53 ((s51 a 52) - v149 + 1) := ⟨_, rfl⟩
                    rw [← e_s57]
                    have hS_s57 : zSK G s57 := by rw [e_s57]; exact zSK_F hS_s56 ha rfl rfl rfl (by omega)
                    refine j_goto hx 152 dX12_findEnds_134 rfl ?_
                    refine j_goto hx 59 dX12_findEnds_152 rfl ?_
                    have g205 : s57 a 52 = (s51 a 52) + 1 := (by rw [e_s57, zU_at (Or.inr (by decide)), e_s56, zU_at (Or.inr (by decide)), (zFr_g hF_s54 ha (by decide)), (zFr_g hF_s53 ha (by decide)), e_s52, zU_eq])
                    have g206 : s57 a 0 = s51 a 0 := (by rw [e_s57, zU_at (Or.inr (by decide)), e_s56, zU_at (Or.inr (by decide)), (zFr_g hF_s54 ha (by decide)), (zFr_g hF_s53 ha (by decide)), e_s52, zU_at (Or.inr (by decide))])
                    have f207 := zf hS_s51 ha (k := 0) rfl
                    have g208 : s57 a 3 = s51 a 3 := (by rw [e_s57, zU_at (Or.inr (by decide)), e_s56, zU_at (Or.inr (by decide)), (zFr_g hF_s54 ha (by decide)), (zFr_g hF_s53 ha (by decide)), e_s52, zU_at (Or.inr (by decide))])
                    have f209 := zf hS_s51 ha (k := 3) rfl
                    have g210 : s57 a 4 = s51 a 4 := (by rw [e_s57, zU_at (Or.inr (by decide)), e_s56, zU_at (Or.inr (by decide)), (zFr_g hF_s54 ha (by decide)), (zFr_g hF_s53 ha (by decide)), e_s52, zU_at (Or.inr (by decide))])
                    have f211 := zf hS_s51 ha (k := 4) rfl
                    have g212 : s57 a 5 = s51 a 5 := (by rw [e_s57, zU_at (Or.inr (by decide)), e_s56, zU_at (Or.inr (by decide)), (zFr_g hF_s54 ha (by decide)), (zFr_g hF_s53 ha (by decide)), e_s52, zU_at (Or.inr (by decide))])
                    have f213 := zf hS_s51 ha (k := 5) rfl
                    have g214 : s57 a 7 = s51 a 7 := (by rw [e_s57, zU_at (Or.inr (by decide)), e_s56, zU_at (Or.inr (by decide)), (zFr_g hF_s54 ha (by decide)), (zFr_g hF_s53 ha (by decide)), e_s52, zU_at (Or.inr (by decide))])
                    have f215 := zf hS_s51 ha (k := 7) rfl
                    have g216 : s57 a 21 = s51 a 21 := (by rw [e_s57, zU_at (Or.inr (by decide)), e_s56, zU_at (Or.inr (by decide)), (zFr_g hF_s54 ha (by decide)), (zFr_g hF_s53 ha (by decide)), e_s52, zU_at (Or.inr (by decide))])
                    have f217 := zf hS_s51 ha (k := 21) rfl
                    have g218 : s57 a 22 = s51 a 22 := (by rw [e_s57, zU_at (Or.inr (by decide)), e_s56, zU_at (Or.inr (by decide)), (zFr_g hF_s54 ha (by decide)), (zFr_g hF_s53 ha (by decide)), e_s52, zU_at (Or.inr (by decide))])
                    have f219 := zf hS_s51 ha (k := 22) rfl
                    have g220 : s57 a 23 = s51 a 23 := (by rw [e_s57, zU_at (Or.inr (by decide)), e_s56, zU_at (Or.inr (by decide)), (zFr_g hF_s54 ha (by decide)), (zFr_g hF_s53 ha (by decide)), e_s52, zU_at (Or.inr (by decide))])
                    have f221 := zf hS_s51 ha (k := 23) rfl
                    have g222 : s57 a 24 = s51 a 24 := (by rw [e_s57, zU_at (Or.inr (by decide)), e_s56, zU_at (Or.inr (by decide)), (zFr_g hF_s54 ha (by decide)), (zFr_g hF_s53 ha (by decide)), e_s52, zU_at (Or.inr (by decide))])
                    have f223 := zf hS_s51 ha (k := 24) rfl
                    have g224 : s57 a 38 = s51 a 38 := (by rw [e_s57, zU_at (Or.inr (by decide)), e_s56, zU_at (Or.inr (by decide)), (zFr_g hF_s54 ha (by decide)), (zFr_g hF_s53 ha (by decide)), e_s52, zU_at (Or.inr (by decide))])
                    have f225 := zf hS_s51 ha (k := 38) rfl
                    have g226 : zc (s57 (gP G a 27)) = zc (s51 (gP G a 27)) := by rw [e_s57, zU_ne (zne ha (zr (k := 27) (t2 := 84) hG ha rfl) (by decide)), e_s56, zU_ne (zne ha (zr (k := 27) (t2 := 84) hG ha rfl) (by decide)), hF_s54 (gP G a 27) (by rw [(zr (k := 27) (t2 := 84) hG ha rfl)]; decide), hF_s53 (gP G a 27) (by rw [(zr (k := 27) (t2 := 84) hG ha rfl)]; decide), e_s52, zU_ne (zne ha (zr (k := 27) (t2 := 84) hG ha rfl) (by decide))]
                    have g227 : s57 a 51 = 2 := (by rw [e_s57, zU_at (Or.inr (by decide)), e_s56, zU_eq])
                    have g228 : s57 (gP G a 27) 488 = s51 (gP G a 27) 488 := (by rw [e_s57, zU_at (Or.inl (zne ha (zr (k := 27) (t2 := 84) hG ha rfl) (by decide))), e_s56, zU_at (Or.inl (zne ha (zr (k := 27) (t2 := 84) hG ha rfl) (by decide))), (zFr_g hF_s54 (zr (k := 27) (t2 := 84) hG ha rfl) (by decide)), (zFr_g hF_s53 (zr (k := 27) (t2 := 84) hG ha rfl) (by decide)), e_s52, zU_at (Or.inl (zne ha (zr (k := 27) (t2 := 84) hG ha rfl) (by decide)))])
                    exact j_sub [1] [(0, .ref a)] rfl (ih_c59_12 s57 (by omega) hS_s57 (zFr_u (zFr_u (zFr_t (zFr_t (zFr_u (zFr_t (zFr_t zFr_rf hF_s13 (by decide)) hF_s51 (by decide)) e_s52 ha (by decide)) hF_s53 (by decide)) hF_s54 (by decide)) e_s56 ha (by decide)) e_s57 ha (by decide)) (by omega) (by omega) (by omega) (by omega) (by omega) (by omega) (by omega) (by omega) (by omega) (by omega) (by omega) (by omega) (by have q1 : s57 (gP G a 49) = s54 (gP G a 49) := (by rw [e_s57, zU_ne (zne ha (zr (k := 49) (t2 := 102) hG ha rfl) (by decide)), e_s56, zU_ne (zne ha (zr (k := 49) (t2 := 102) hG ha rfl) (by decide))]); have q2 : s57 (gP G a 50) = s54 (gP G a 50) := (by rw [e_s57, zU_ne (zne ha (zr (k := 50) (t2 := 103) hG ha rfl) (by decide)), e_s56, zU_ne (zne ha (zr (k := 50) (t2 := 103) hG ha rfl) (by decide))]); rw [q1, q2]; exact (zCh_n q150.2 (by omega))) (by omega) (by omega))
                · skip
                  refine j_aload_n hx 1 dX12_findEnds_106 rfl ?_
                  refine j_iconst hx dX12_findEnds_107 ?_
                  refine p13_51 hx hG ha kf_RX12_432 dX12_findEnds_108 ?_
                  obtain ⟨s58, e_s58⟩ : ∃ z, z = zU s54 a 51 1 := ⟨_, rfl⟩
                  rw [← e_s58]
                  have hS_s58 : zSK G s58 := by rw [e_s58]; exact zSK_F hS_s54 ha rfl rfl rfl (by omega)
                  refine j_goto hx 152 dX12_findEnds_111 rfl ?_
                  refine j_goto hx 59 dX12_findEnds_152 rfl ?_
                  have g229 : s58 a 52 = (s51 a 52) + 1 := (by rw [e_s58, zU_at (Or.inr (by decide)), (zFr_g hF_s54 ha (by decide)), (zFr_g hF_s53 ha (by decide)), e_s52, zU_eq])
                  have g230 : s58 a 0 = s51 a 0 := (by rw [e_s58, zU_at (Or.inr (by decide)), (zFr_g hF_s54 ha (by decide)), (zFr_g hF_s53 ha (by decide)), e_s52, zU_at (Or.inr (by decide))])
                  have f231 := zf hS_s51 ha (k := 0) rfl
                  have g232 : s58 a 3 = s51 a 3 := (by rw [e_s58, zU_at (Or.inr (by decide)), (zFr_g hF_s54 ha (by decide)), (zFr_g hF_s53 ha (by decide)), e_s52, zU_at (Or.inr (by decide))])
                  have f233 := zf hS_s51 ha (k := 3) rfl
                  have g234 : s58 a 4 = s51 a 4 := (by rw [e_s58, zU_at (Or.inr (by decide)), (zFr_g hF_s54 ha (by decide)), (zFr_g hF_s53 ha (by decide)), e_s52, zU_at (Or.inr (by decide))])
                  have f235 := zf hS_s51 ha (k := 4) rfl
                  have g236 : s58 a 5 = s51 a 5 := (by rw [e_s58, zU_at (Or.inr (by decide)), (zFr_g hF_s54 ha (by decide)), (zFr_g hF_s53 ha (by decide)), e_s52, zU_at (Or.inr (by decide))])
                  have f237 := zf hS_s51 ha (k := 5) rfl
                  have g238 : s58 a 7 = s51 a 7 := (by rw [e_s58, zU_at (Or.inr (by decide)), (zFr_g hF_s54 ha (by decide)), (zFr_g hF_s53 ha (by decide)), e_s52, zU_at (Or.inr (by decide))])
                  have f239 := zf hS_s51 ha (k := 7) rfl
                  have g240 : s58 a 21 = s51 a 21 := (by rw [e_s58, zU_at (Or.inr (by decide)), (zFr_g hF_s54 ha (by decide)), (zFr_g hF_s53 ha (by decide)), e_s52, zU_at (Or.inr (by decide))])
                  have f241 := zf hS_s51 ha (k := 21) rfl
                  have g242 : s58 a 22 = s51 a 22 := (by rw [e_s58, zU_at (Or.inr (by decide)), (zFr_g hF_s54 ha (by decide)), (zFr_g hF_s53 ha (by decide)), e_s52, zU_at (Or.inr (by decide))])
                  have f243 := zf hS_s51 ha (k := 22) rfl
                  have g244 : s58 a 23 = s51 a 23 := (by rw [e_s58, zU_at (Or.inr (by decide)), (zFr_g hF_s54 ha (by decide)), (zFr_g hF_s53 ha (by decide)), e_s52, zU_at (Or.inr (by decide))])
                  have f245 := zf hS_s51 ha (k := 23) rfl
                  have g246 : s58 a 24 = s51 a 24 := (by rw [e_s58, zU_at (Or.inr (by decide)), (zFr_g hF_s54 ha (by decide)), (zFr_g hF_s53 ha (by decide)), e_s52, zU_at (Or.inr (by decide))])
                  have f247 := zf hS_s51 ha (k := 24) rfl
                  have g248 : s58 a 38 = s51 a 38 := (by rw [e_s58, zU_at (Or.inr (by decide)), (zFr_g hF_s54 ha (by decide)), (zFr_g hF_s53 ha (by decide)), e_s52, zU_at (Or.inr (by decide))])
                  have f249 := zf hS_s51 ha (k := 38) rfl
                  have g250 : zc (s58 (gP G a 27)) = zc (s51 (gP G a 27)) := by rw [e_s58, zU_ne (zne ha (zr (k := 27) (t2 := 84) hG ha rfl) (by decide)), hF_s54 (gP G a 27) (by rw [(zr (k := 27) (t2 := 84) hG ha rfl)]; decide), hF_s53 (gP G a 27) (by rw [(zr (k := 27) (t2 := 84) hG ha rfl)]; decide), e_s52, zU_ne (zne ha (zr (k := 27) (t2 := 84) hG ha rfl) (by decide))]
                  have g251 : s58 a 51 = 1 := (by rw [e_s58, zU_eq])
                  have g252 : s58 (gP G a 27) 488 = s51 (gP G a 27) 488 := (by rw [e_s58, zU_at (Or.inl (zne ha (zr (k := 27) (t2 := 84) hG ha rfl) (by decide))), (zFr_g hF_s54 (zr (k := 27) (t2 := 84) hG ha rfl) (by decide)), (zFr_g hF_s53 (zr (k := 27) (t2 := 84) hG ha rfl) (by decide)), e_s52, zU_at (Or.inl (zne ha (zr (k := 27) (t2 := 84) hG ha rfl) (by decide)))])
                  exact j_sub [1] [(0, .ref a)] rfl (ih_c59_12 s58 (by omega) hS_s58 (zFr_u (zFr_t (zFr_t (zFr_u (zFr_t (zFr_t zFr_rf hF_s13 (by decide)) hF_s51 (by decide)) e_s52 ha (by decide)) hF_s53 (by decide)) hF_s54 (by decide)) e_s58 ha (by decide)) (by omega) (by omega) (by omega) (by omega) (by omega) (by omega) (by omega) (by omega) (by omega) (by omega) (by omega) (by omega) (by have q1 : s58 (gP G a 49) = s54 (gP G a 49) := (by rw [e_s58, zU_ne (zne ha (zr (k := 49) (t2 := 102) hG ha rfl) (by decide))]); have q2 : s58 (gP G a 50) = s54 (gP G a 50) := (by rw [e_s58, zU_ne (zne ha (zr (k := 50) (t2 := 103) hG ha rfl) (by decide))]); rw [q1, q2]; exact (zCh_n q150.2 (by omega))) (by omega) (by omega))
          have g253 : s11 a 52 = 0 := (by rw [(zFr_g hF_s11 ha (by decide)), (zFr_g hF_s10 ha (by decide)), e_s9, zU_at (Or.inr (by decide)), e_s8, zU_eq])
          have g254 : s11 a 51 = (-1) := (by rw [(zFr_g hF_s11 ha (by decide)), (zFr_g hF_s10 ha (by decide)), e_s9, zU_eq])
          exact j_sub [0] [(0, .ref a)] rfl (c59_12 (2147483648 * 4) s11 (by omega) hS_s11 zFr_rf (by omega) (by omega) (by omega) (by omega) (by omega) (by omega) (by omega) (by omega) (by omega) (by omega) (by omega) (by omega) (zCh_n q11.2 (by omega)) (by omega) (by omega))
        · skip
          refine j_iconst hx dX12_findEnds_40 ?_
          refine j_goto hx 45 dX12_findEnds_41 rfl ?_
          refine p13_51 hx hG ha kf_RX12_432 dX12_findEnds_45 ?_
          obtain ⟨s59, e_s59⟩ : ∃ z, z = zU s8 a 51 1 := ⟨_, rfl⟩
          rw [← e_s59]
          have hS_s59 : zSK G s59 := by rw [e_s59]; exact zSK_F hS_s8 ha rfl rfl rfl (by omega)
          refine j_aload_n hx 0 dX12_findEnds_48 rfl ?_
          refine j_iconst hx dX12_findEnds_49 ?_
          have g255 : zc (s59 (gP G a 27)) = zc (s0 (gP G a 27)) := by rw [e_s59, zU_ne (zne ha (zr (k := 27) (t2 := 84) hG ha rfl) (by decide)), e_s8, zU_ne (zne ha (zr (k := 27) (t2 := 84) hG ha rfl) (by decide)), e_s7, zU_ne (zne ha (zr (k := 27) (t2 := 84) hG ha rfl) (by decide)), hF_s2 (gP G a 27) (by rw [(zr (k := 27) (t2 := 84) hG ha rfl)]; decide)]
          refine j_callV hx hG (c_X12_writes hst a 0) lk_RX12_435 ha (by decide) rfl rfl rfl rfl [.int (zI 0)] ⟨rfl, hG, hS_s59, ha, (by omega), (by omega)⟩ rfl rfl ⟨by decide, by decide⟩ ⟨by decide, by decide⟩ (k2 := 0) (n2 := 0) rfl rfl (Nat.le_of_ble_eq_true rfl) dX12_findEnds_50 (kVM (fun s60 hS_s60 hF_s60 q257 => ?_))
          refine j_aload_n hx 0 dX12_findEnds_53 rfl ?_
          refine j_iconst hx dX12_findEnds_54 ?_
          refine j_callV hx hG (c_X12_earlier hst a 0) lk_RX12_438 ha (by decide) rfl rfl rfl rfl [.int (zI 0)] ⟨rfl, hG, hS_s60, ha, (by omega), ((by have q1 : s60 (gP G a 34) = s0 (gP G a 34) := (by rw [hF_s60 (gP G a 34) (by rw [(zr (k := 34) (t2 := 91) hG ha rfl)]; decide), e_s59, zU_ne (zne ha (zr (k := 34) (t2 := 91) hG ha rfl) (by decide)), e_s8, zU_ne (zne ha (zr (k := 34) (t2 := 91) hG ha rfl) (by decide)), e_s7, zU_ne (zne ha (zr (k := 34) (t2 := 91) hG ha rfl) (by decide)), hF_s2 (gP G a 34) (by rw [(zr (k := 34) (t2 := 91) hG ha rfl)]; decide)]); have q2 : s60 (gP G a 35) = s0 (gP G a 35) := (by rw [hF_s60 (gP G a 35) (by rw [(zr (k := 35) (t2 := 92) hG ha rfl)]; decide), e_s59, zU_ne (zne ha (zr (k := 35) (t2 := 92) hG ha rfl) (by decide)), e_s8, zU_ne (zne ha (zr (k := 35) (t2 := 92) hG ha rfl) (by decide)), e_s7, zU_ne (zne ha (zr (k := 35) (t2 := 92) hG ha rfl) (by decide)), hF_s2 (gP G a 35) (by rw [(zr (k := 35) (t2 := 92) hG ha rfl)]; decide)]); have q3 : s60 (gP G a 37) = s0 (gP G a 37) := (by rw [hF_s60 (gP G a 37) (by rw [(zr (k := 37) (t2 := 94) hG ha rfl)]; decide), e_s59, zU_ne (zne ha (zr (k := 37) (t2 := 94) hG ha rfl) (by decide)), e_s8, zU_ne (zne ha (zr (k := 37) (t2 := 94) hG ha rfl) (by decide)), e_s7, zU_ne (zne ha (zr (k := 37) (t2 := 94) hG ha rfl) (by decide)), hF_s2 (gP G a 37) (by rw [(zr (k := 37) (t2 := 94) hG ha rfl)]; decide)]); rw [q1, q2, q3]; exact e1)), ((by have q1 : s60 (gP G a 49) = s2 (gP G a 49) := (by rw [hF_s60 (gP G a 49) (by rw [(zr (k := 49) (t2 := 102) hG ha rfl)]; decide), e_s59, zU_ne (zne ha (zr (k := 49) (t2 := 102) hG ha rfl) (by decide)), e_s8, zU_ne (zne ha (zr (k := 49) (t2 := 102) hG ha rfl) (by decide)), e_s7, zU_ne (zne ha (zr (k := 49) (t2 := 102) hG ha rfl) (by decide))]); have q2 : s60 (gP G a 50) = s2 (gP G a 50) := (by rw [hF_s60 (gP G a 50) (by rw [(zr (k := 50) (t2 := 103) hG ha rfl)]; decide), e_s59, zU_ne (zne ha (zr (k := 50) (t2 := 103) hG ha rfl) (by decide)), e_s8, zU_ne (zne ha (zr (k := 50) (t2 := 103) hG ha rfl) (by decide)), e_s7, zU_ne (zne ha (zr (k := 50) (t2 := 103) hG ha rfl) (by decide))]); rw [q1, q2]; exact (zCh_n hP3 (by omega))))⟩ rfl rfl ⟨by decide, by decide⟩ ⟨by decide, by decide⟩ (k2 := 0) (n2 := 0) rfl rfl (Nat.le_of_ble_eq_true rfl) dX12_findEnds_55 (kIM (fun v258 s61 hS_s61 hF_s61 q259 => ?_))
          refine j_pop hx dX12_findEnds_58 rfl ?_
          have g260 : s61 a 0 = s0 a 0 := (by rw [(zFr_g hF_s61 ha (by decide)), (zFr_g hF_s60 ha (by decide)), e_s59, zU_at (Or.inr (by decide)), e_s8, zU_at (Or.inr (by decide)), e_s7, zU_at (Or.inr (by decide)), (zFr_g hF_s2 ha (by decide))])
          have f261 := zf hS0 ha (k := 0) rfl
          have g262 : s61 a 3 = s0 a 3 := (by rw [(zFr_g hF_s61 ha (by decide)), (zFr_g hF_s60 ha (by decide)), e_s59, zU_at (Or.inr (by decide)), e_s8, zU_at (Or.inr (by decide)), e_s7, zU_at (Or.inr (by decide)), (zFr_g hF_s2 ha (by decide))])
          have f263 := zf hS0 ha (k := 3) rfl
          have g264 : s61 a 4 = s0 a 4 := (by rw [(zFr_g hF_s61 ha (by decide)), (zFr_g hF_s60 ha (by decide)), e_s59, zU_at (Or.inr (by decide)), e_s8, zU_at (Or.inr (by decide)), e_s7, zU_at (Or.inr (by decide)), (zFr_g hF_s2 ha (by decide))])
          have f265 := zf hS0 ha (k := 4) rfl
          have g266 : s61 a 5 = s0 a 5 := (by rw [(zFr_g hF_s61 ha (by decide)), (zFr_g hF_s60 ha (by decide)), e_s59, zU_at (Or.inr (by decide)), e_s8, zU_at (Or.inr (by decide)), e_s7, zU_at (Or.inr (by decide)), (zFr_g hF_s2 ha (by decide))])
          have f267 := zf hS0 ha (k := 5) rfl
          have g268 : s61 a 7 = s0 a 7 := (by rw [(zFr_g hF_s61 ha (by decide)), (zFr_g hF_s60 ha (by decide)), e_s59, zU_at (Or.inr (by decide)), e_s8, zU_at (Or.inr (by decide)), e_s7, zU_at (Or.inr (by decide)), (zFr_g hF_s2 ha (by decide))])
          have f269 := zf hS0 ha (k := 7) rfl
          have g270 : s61 a 21 = s0 a 21 := (by rw [(zFr_g hF_s61 ha (by decide)), (zFr_g hF_s60 ha (by decide)), e_s59, zU_at (Or.inr (by decide)), e_s8, zU_at (Or.inr (by decide)), e_s7, zU_at (Or.inr (by decide)), (zFr_g hF_s2 ha (by decide))])
          have f271 := zf hS0 ha (k := 21) rfl
          have g272 : s61 a 22 = s0 a 22 := (by rw [(zFr_g hF_s61 ha (by decide)), (zFr_g hF_s60 ha (by decide)), e_s59, zU_at (Or.inr (by decide)), e_s8, zU_at (Or.inr (by decide)), e_s7, zU_at (Or.inr (by decide)), (zFr_g hF_s2 ha (by decide))])
          have f273 := zf hS0 ha (k := 22) rfl
          have g274 : s61 a 23 = s0 a 23 := (by rw [(zFr_g hF_s61 ha (by decide)), (zFr_g hF_s60 ha (by decide)), e_s59, zU_at (Or.inr (by decide)), e_s8, zU_at (Or.inr (by decide)), e_s7, zU_at (Or.inr (by decide)), (zFr_g hF_s2 ha (by decide))])
          have f275 := zf hS0 ha (k := 23) rfl
          have g276 : s61 a 24 = s0 a 24 := (by rw [(zFr_g hF_s61 ha (by decide)), (zFr_g hF_s60 ha (by decide)), e_s59, zU_at (Or.inr (by decide)), e_s8, zU_at (Or.inr (by decide)), e_s7, zU_at (Or.inr (by decide)), (zFr_g hF_s2 ha (by decide))])
          have f277 := zf hS0 ha (k := 24) rfl
          have g278 : s61 a 38 = s0 a 38 := (by rw [(zFr_g hF_s61 ha (by decide)), (zFr_g hF_s60 ha (by decide)), e_s59, zU_at (Or.inr (by decide)), e_s8, zU_at (Or.inr (by decide)), e_s7, zU_at (Or.inr (by decide)), (zFr_g hF_s2 ha (by decide))])
          have f279 := zf hS0 ha (k := 38) rfl
          have g280 : s61 (gP G a 27) 488 = s0 (gP G a 27) 488 := (by rw [(zFr_g hF_s61 (zr (k := 27) (t2 := 84) hG ha rfl) (by decide)), (zFr_g hF_s60 (zr (k := 27) (t2 := 84) hG ha rfl) (by decide)), e_s59, zU_at (Or.inl (zne ha (zr (k := 27) (t2 := 84) hG ha rfl) (by decide))), e_s8, zU_at (Or.inl (zne ha (zr (k := 27) (t2 := 84) hG ha rfl) (by decide))), e_s7, zU_at (Or.inl (zne ha (zr (k := 27) (t2 := 84) hG ha rfl) (by decide))), (zFr_g hF_s2 (zr (k := 27) (t2 := 84) hG ha rfl) (by decide))])
          have g281 : zc (s61 (gP G a 27)) = zc (s0 (gP G a 27)) := by rw [hF_s61 (gP G a 27) (by rw [(zr (k := 27) (t2 := 84) hG ha rfl)]; decide), hF_s60 (gP G a 27) (by rw [(zr (k := 27) (t2 := 84) hG ha rfl)]; decide), e_s59, zU_ne (zne ha (zr (k := 27) (t2 := 84) hG ha rfl) (by decide)), e_s8, zU_ne (zne ha (zr (k := 27) (t2 := 84) hG ha rfl) (by decide)), e_s7, zU_ne (zne ha (zr (k := 27) (t2 := 84) hG ha rfl) (by decide)), hF_s2 (gP G a 27) (by rw [(zr (k := 27) (t2 := 84) hG ha rfl)]; decide)]
          have c59_62 : ∀ (m_c59_62 : Nat) (s63 : zS), 4000 - s63 a 52 < m_c59_62 → (zSK G s63) → (zFr [13, 84, 87, 95, 98, 101, 102, 103] G s61 s63) → (s63 a 0 = s61 a 0) → (s63 a 3 = s61 a 3) → (s63 a 4 = s61 a 4) → (s63 a 5 = s61 a 5) → (s63 a 7 = s61 a 7) → (s63 a 21 = s61 a 21) → (s63 a 22 = s61 a 22) → (s63 a 23 = s61 a 23) → (s63 a 24 = s61 a 24) → (s63 a 38 = s61 a 38) → (zc (s63 (gP G a 27)) = zc (s61 (gP G a 27))) → (s63 a 51 = -1 → s63 a 52 ≤ 2999) → (zCh (s63 (gP G a 49)) (s63 (gP G a 50)) (s63 a 52 + 1)) → (s63 (gP G a 27) 488 ≤ s61 (gP G a 27) 488 + s63 a 52) → (s63 a 52 ≤ 3000) → JJ X E 2 G s63 0 0 [(0, .ref a)] 59 [] := by
            intro m_c59_62
            induction m_c59_62 with
            | zero => intro s63 hm_c59_62 hS_s63 hF_s63 fA66 fA67 fA68 fA69 fA70 fA71 fA72 fA73 fA74 fA75 fA76 fA77 fA78 fA79 fA80; exfalso; omega
            | succ m_c59_62 ih_c59_62 => 
              intro s63 hm_c59_62 hS_s63 hF_s63 fA66 fA67 fA68 fA69 fA70 fA71 fA72 fA73 fA74 fA75 fA76 fA77 fA78 fA79 fA80
              refine j_aload_n hx 0 dX12_findEnds_59 rfl ?_
              have f282 := zf hS_s63 ha (k := 51) rfl
              refine g13_51 hx hG ha kf_RX12_432 rfl dX12_findEnds_60 ?_
              refine j_iconst hx dX12_findEnds_63 ?_
              refine j_icmp_ne hx 155 dX12_findEnds_64 rfl (by omega) ⟨by decide, by decide⟩ (fun h283 => ?_) (fun h283 => ?_)
              · skip
                refine j_aload_n hx 0 dX12_findEnds_155 rfl ?_
                refine j_iconst hx dX12_findEnds_156 ?_
                refine p13_54 hx hG ha kf_RX12_441 dX12_findEnds_157 ?_
                obtain ⟨s81, e_s81⟩ : ∃ z, z = zU s63 a 54 (-1) := ⟨_, rfl⟩
                rw [← e_s81]
                have hS_s81 : zSK G s81 := by rw [e_s81]; exact zSK_F hS_s63 ha rfl rfl rfl (by omega)
                refine j_iconst hx dX12_findEnds_160 ?_
                refine j_istore_n hx [(1, .int (zI 0)), (0, .ref a)] dX12_findEnds_161 (by decide) rfl ?_
                have g285 : s81 a 0 = s63 a 0 := (by rw [e_s81, zU_at (Or.inr (by decide))])
                have f286 := zf hS_s63 ha (k := 0) rfl
                have g287 : s81 a 3 = s63 a 3 := (by rw [e_s81, zU_at (Or.inr (by decide))])
                have f288 := zf hS_s63 ha (k := 3) rfl
                have g289 : s81 a 4 = s63 a 4 := (by rw [e_s81, zU_at (Or.inr (by decide))])
                have f290 := zf hS_s63 ha (k := 4) rfl
                have g291 : s81 a 5 = s63 a 5 := (by rw [e_s81, zU_at (Or.inr (by decide))])
                have f292 := zf hS_s63 ha (k := 5) rfl
                have g293 : s81 a 7 = s63 a 7 := (by rw [e_s81, zU_at (Or.inr (by decide))])
                have f294 := zf hS_s63 ha (k := 7) rfl
                have g295 : s81 a 21 = s63 a 21 := (by rw [e_s81, zU_at (Or.inr (by decide))])
                have f296 := zf hS_s63 ha (k := 21) rfl
                have g297 : s81 a 22 = s63 a 22 := (by rw [e_s81, zU_at (Or.inr (by decide))])
                have f298 := zf hS_s63 ha (k := 22) rfl
                have g299 : s81 a 23 = s63 a 23 := (by rw [e_s81, zU_at (Or.inr (by decide))])
                have f300 := zf hS_s63 ha (k := 23) rfl
                have g301 : s81 a 24 = s63 a 24 := (by rw [e_s81, zU_at (Or.inr (by decide))])
                have f302 := zf hS_s63 ha (k := 24) rfl
                have g303 : s81 a 38 = s63 a 38 := (by rw [e_s81, zU_at (Or.inr (by decide))])
                have f304 := zf hS_s63 ha (k := 38) rfl
                have g305 : s81 a 51 = s63 a 51 := (by rw [e_s81, zU_at (Or.inr (by decide))])
                have g306 : s81 a 52 = s63 a 52 := (by rw [e_s81, zU_at (Or.inr (by decide))])
                have f307 := zf hS_s63 ha (k := 52) rfl
                have c162_82 : ∀ (m_c162_82 : Nat) (v284 : Int) (s83 : zS), 2147483648 - v284 < m_c162_82 → (0 ≤ v284 ∧ v284 ≤ 3) → (zSK G s83) → (zFr [13] G s81 s83) → (s83 a 0 = s81 a 0) → (s83 a 3 = s81 a 3) → (s83 a 4 = s81 a 4) → (s83 a 5 = s81 a 5) → (s83 a 7 = s81 a 7) → (s83 a 21 = s81 a 21) → (s83 a 22 = s81 a 22) → (s83 a 23 = s81 a 23) → (s83 a 24 = s81 a 24) → (s83 a 38 = s81 a 38) → (s83 a 51 = s81 a 51) → (s83 a 52 = s81 a 52) → JJ X E 2 G s83 0 0 [(0, .ref a), (1, .int (zI v284))] 162 [] := by
                  intro m_c162_82
                  induction m_c162_82 with
                  | zero => intro v284 s83 hm_c162_82 fA84 hS_s83 hF_s83 fA87 fA88 fA89 fA90 fA91 fA92 fA93 fA94 fA95 fA96 fA97 fA98; exfalso; omega
                  | succ m_c162_82 ih_c162_82 => 
                    intro v284 s83 hm_c162_82 fA84 hS_s83 hF_s83 fA87 fA88 fA89 fA90 fA91 fA92 fA93 fA94 fA95 fA96 fA97 fA98
                    refine j_iload_n hx 1 dX12_findEnds_162 rfl ?_
                    refine j_aload_n hx 0 dX12_findEnds_163 rfl ?_
                    have f308 := zf hS_s83 ha (k := 24) rfl
                    refine g13_24 hx hG ha kf_RX12_189 rfl dX12_findEnds_164 ?_
                    refine j_icmp_ge hx 204 dX12_findEnds_167 rfl (by omega) (by omega) (fun h309 => ?_) (fun h309 => ?_)
                    · skip
                      have g310 : zc (s83 (gP G a 27)) = zc (s63 (gP G a 27)) := by rw [hF_s83 (gP G a 27) (by rw [(zr (k := 27) (t2 := 84) hG ha rfl)]; decide), e_s81, zU_ne (zne ha (zr (k := 27) (t2 := 84) hG ha rfl) (by decide))]
                      have f311 := zf hS_s83 ha (k := 0) rfl
                      have f312 := zf hS_s83 ha (k := 3) rfl
                      have f313 := zf hS_s83 ha (k := 4) rfl
                      have f314 := zf hS_s83 ha (k := 5) rfl
                      have f315 := zf hS_s83 ha (k := 7) rfl
                      have f316 := zf hS_s83 ha (k := 21) rfl
                      have f317 := zf hS_s83 ha (k := 22) rfl
                      have f318 := zf hS_s83 ha (k := 23) rfl
                      have f319 := zf hS_s83 ha (k := 38) rfl
                      exact j_vret hx hq rfl (by decide) (by decide) dX12_findEnds_204 ⟨rfl, rfl, hS_s83, (zFr_t (zFr_u (zFr_t (zFr_t (zFr_t (zFr_u (zFr_u (zFr_u (zFr_t zFr_rf hF_s2 (by decide)) e_s7 ha (by decide)) e_s8 ha (by decide)) e_s59 ha (by decide)) hF_s60 (by decide)) hF_s61 (by decide)) hF_s63 (by decide)) e_s81 ha (by decide)) hF_s83 (by decide)), ⟨by omega, by omega, by omega, by omega, by omega, by omega, by omega, by omega, by omega, by omega, by omega⟩⟩
                    · skip
                      refine j_aload_n hx 0 dX12_findEnds_170 rfl ?_
                      have f320 := zf hS_s83 ha (k := 51) rfl
                      refine g13_51 hx hG ha kf_RX12_432 rfl dX12_findEnds_171 ?_
                      refine j_iconst hx dX12_findEnds_174 ?_
                      refine j_icmp_ne hx 204 dX12_findEnds_175 rfl (by omega) ⟨by decide, by decide⟩ (fun h321 => ?_) (fun h321 => ?_)
                      · skip
                        have g322 : zc (s83 (gP G a 27)) = zc (s63 (gP G a 27)) := by rw [hF_s83 (gP G a 27) (by rw [(zr (k := 27) (t2 := 84) hG ha rfl)]; decide), e_s81, zU_ne (zne ha (zr (k := 27) (t2 := 84) hG ha rfl) (by decide))]
                        have f323 := zf hS_s83 ha (k := 0) rfl
                        have f324 := zf hS_s83 ha (k := 3) rfl
                        have f325 := zf hS_s83 ha (k := 4) rfl
                        have f326 := zf hS_s83 ha (k := 5) rfl
                        have f327 := zf hS_s83 ha (k := 7) rfl
                        have f328 := zf hS_s83 ha (k := 21) rfl
                        have f329 := zf hS_s83 ha (k := 22) rfl
                        have f330 := zf hS_s83 ha (k := 23) rfl
                        have f331 := zf hS_s83 ha (k := 38) rfl
                        exact j_vret hx hq rfl (by decide) (by decide) dX12_findEnds_204 ⟨rfl, rfl, hS_s83, (zFr_t (zFr_u (zFr_t (zFr_t (zFr_t (zFr_u (zFr_u (zFr_u (zFr_t zFr_rf hF_s2 (by decide)) e_s7 ha (by decide)) e_s8 ha (by decide)) e_s59 ha (by decide)) hF_s60 (by decide)) hF_s61 (by decide)) hF_s63 (by decide)) e_s81 ha (by decide)) hF_s83 (by decide)), ⟨by omega, by omega, by omega, by omega, by omega, by omega, by omega, by omega, by omega, by omega, by omega⟩⟩
                      · skip
                        refine j_aload_n hx 0 dX12_findEnds_178 rfl ?_
                        refine j_aload_n hx 0 dX12_findEnds_179 rfl ?_
                        refine j_iload_n hx 1 dX12_findEnds_180 rfl ?_
                        refine j_callV hx hG (c_X12_isOut hst a v284) lk_RX12_325 ha (by decide) rfl rfl rfl rfl [.int (zI v284)] ⟨rfl, hG, hS_s83, ha, (by omega)⟩ rfl rfl ⟨by decide, by decide⟩ ⟨by decide, by decide⟩ (k2 := 0) (n2 := 0) rfl rfl (Nat.le_of_ble_eq_true rfl) dX12_findEnds_181 (kIP (fun v332 q333 => ?_))
                        refine j_if_eq hx 194 dX12_findEnds_184 rfl (by omega) (fun h334 => ?_) (fun h334 => ?_)
                        · skip
                          refine j_iload_n hx 1 dX12_findEnds_194 rfl ?_
                          refine p13_54 hx hG ha kf_RX12_441 dX12_findEnds_195 ?_
                          obtain ⟨s99, e_s99⟩ : ∃ z, z = zU s83 a 54 v284 := ⟨_, rfl⟩
                          rw [← e_s99]
                          have hS_s99 : zSK G s99 := by rw [e_s99]; exact zSK_F hS_s83 ha rfl rfl rfl (by omega)
                          refine j_iinc hx 1 [(1, .int (zI (v284 + 1))), (0, .ref a)] dX12_findEnds_198 rfl (by omega) (by decide) rfl ?_
                          refine j_goto hx 162 dX12_findEnds_201 rfl ?_
                          have g335 : s99 a 0 = s83 a 0 := (by rw [e_s99, zU_at (Or.inr (by decide))])
                          have f336 := zf hS_s83 ha (k := 0) rfl
                          have g337 : s99 a 3 = s83 a 3 := (by rw [e_s99, zU_at (Or.inr (by decide))])
                          have f338 := zf hS_s83 ha (k := 3) rfl
                          have g339 : s99 a 4 = s83 a 4 := (by rw [e_s99, zU_at (Or.inr (by decide))])
                          have f340 := zf hS_s83 ha (k := 4) rfl
                          have g341 : s99 a 5 = s83 a 5 := (by rw [e_s99, zU_at (Or.inr (by decide))])
                          have f342 := zf hS_s83 ha (k := 5) rfl
                          have g343 : s99 a 7 = s83 a 7 := (by rw [e_s99, zU_at (Or.inr (by decide))])
                          have f344 := zf hS_s83 ha (k := 7) rfl
                          have g345 : s99 a 21 = s83 a 21 := (by rw [e_s99, zU_at (Or.inr (by decide))])
                          have f346 := zf hS_s83 ha (k := 21) rfl
                          have g347 : s99 a 22 = s83 a 22 := (by rw [e_s99, zU_at (Or.inr (by decide))])
                          have f348 := zf hS_s83 ha (k := 22) rfl
                          have g349 : s99 a 23 = s83 a 23 := (by rw [e_s99, zU_at (Or.inr (by decide))])
                          have f350 := zf hS_s83 ha (k := 23) rfl
                          have g351 : s99 a 24 = s83 a 24 := (by rw [e_s99, zU_at (Or.inr (by decide))])
                          have g352 : s99 a 38 = s83 a 38 := (by rw [e_s99, zU_at (Or.inr (by decide))])
                          have f353 := zf hS_s83 ha (k := 38) rfl
                          have g354 : s99 a 51 = s83 a 51 := (by rw [e_s99, zU_at (Or.inr (by decide))])
                          have g355 : s99 a 52 = s83 a 52 := (by rw [e_s99, zU_at (Or.inr (by decide))])
                          have f356 := zf hS_s83 ha (k := 52) rfl
                          exact j_sub [1, 0] [(0, .ref a), (1, .int (zI (v284 + 1)))] rfl (ih_c162_82 (v284 + 1) s99 (by omega) (by omega) hS_s99 (zFr_u (zFr_t zFr_rf hF_s83 (by decide)) e_s99 ha (by decide)) (by omega) (by omega) (by omega) (by omega) (by omega) (by omega) (by omega) (by omega) (by omega) (by omega) (by omega) (by omega))
                        · skip
                          refine j_aload_n hx 0 dX12_findEnds_187 rfl ?_
                          have f357 := zf hS_s83 ha (k := 54) rfl
                          refine g13_54 hx hG ha kf_RX12_441 rfl dX12_findEnds_188 ?_
                          refine j_goto hx 195 dX12_findEnds_191 rfl ?_
                          refine p13_54 hx hG ha kf_RX12_441 dX12_findEnds_195 ?_
                          obtain ⟨s100, e_s100⟩ : ∃ z, z = zU s83 a 54 ((s83 a 54)) := ⟨_, rfl⟩
                          rw [← e_s100]
                          have hS_s100 : zSK G s100 := by rw [e_s100]; exact zSK_F hS_s83 ha rfl rfl rfl (by omega)
                          refine j_iinc hx 1 [(1, .int (zI (v284 + 1))), (0, .ref a)] dX12_findEnds_198 rfl (by omega) (by decide) rfl ?_
                          refine j_goto hx 162 dX12_findEnds_201 rfl ?_
                          have g358 : s100 a 0 = s83 a 0 := (by rw [e_s100, zU_at (Or.inr (by decide))])
                          have f359 := zf hS_s83 ha (k := 0) rfl
                          have g360 : s100 a 3 = s83 a 3 := (by rw [e_s100, zU_at (Or.inr (by decide))])
                          have f361 := zf hS_s83 ha (k := 3) rfl
                          have g362 : s100 a 4 = s83 a 4 := (by rw [e_s100, zU_at (Or.inr (by decide))])
                          have f363 := zf hS_s83 ha (k := 4) rfl
                          have g364 : s100 a 5 = s83 a 5 := (by rw [e_s100, zU_at (Or.inr (by decide))])
                          have f365 := zf hS_s83 ha (k := 5) rfl
                          have g366 : s100 a 7 = s83 a 7 := (by rw [e_s100, zU_at (Or.inr (by decide))])
                          have f367 := zf hS_s83 ha (k := 7) rfl
                          have g368 : s100 a 21 = s83 a 21 := (by rw [e_s100, zU_at (Or.inr (by decide))])
                          have f369 := zf hS_s83 ha (k := 21) rfl
                          have g370 : s100 a 22 = s83 a 22 := (by rw [e_s100, zU_at (Or.inr (by decide))])
                          have f371 := zf hS_s83 ha (k := 22) rfl
                          have g372 : s100 a 23 = s83 a 23 := (by rw [e_s100, zU_at (Or.inr (by decide))])
                          have f373 := zf hS_s83 ha (k := 23) rfl
                          have g374 : s100 a 24 = s83 a 24 := (by rw [e_s100, zU_at (Or.inr (by decide))])
                          have g375 : s100 a 38 = s83 a 38 := (by rw [e_s100, zU_at (Or.inr (by decide))])
                          have f376 := zf hS_s83 ha (k := 38) rfl
                          have g377 : s100 a 51 = s83 a 51 := (by rw [e_s100, zU_at (Or.inr (by decide))])
                          have g378 : s100 a 52 = s83 a 52 := (by rw [e_s100, zU_at (Or.inr (by decide))])
                          have f379 := zf hS_s83 ha (k := 52) rfl
                          exact j_sub [1, 0] [(0, .ref a), (1, .int (zI (v284 + 1)))] rfl (ih_c162_82 (v284 + 1) s100 (by omega) (by omega) hS_s100 (zFr_u (zFr_t zFr_rf hF_s83 (by decide)) e_s100 ha (by decide)) (by omega) (by omega) (by omega) (by omega) (by omega) (by omega) (by omega) (by omega) (by omega) (by omega) (by omega) (by omega))
                exact j_sub [1, 0] [(0, .ref a), (1, .int (zI 0))] rfl (c162_82 (2147483648 * 4) 0 s81 (by omega) (by omega) hS_s81 zFr_rf (by omega) (by omega) (by omega) (by omega) (by omega) (by omega) (by omega) (by omega) (by omega) (by omega) (by omega) (by omega))
              · skip
                refine j_aload_n hx 0 dX12_findEnds_67 rfl ?_
                have f380 := zf hS_s63 ha (k := 0) rfl
                have f381 := zf hS_s63 ha (k := 3) rfl
                have f382 := zf hS_s63 ha (k := 4) rfl
                have f383 := zf hS_s63 ha (k := 5) rfl
                have f384 := zf hS_s63 ha (k := 7) rfl
                have f385 := zf hS_s63 ha (k := 21) rfl
                have f386 := zf hS_s63 ha (k := 22) rfl
                have f387 := zf hS_s63 ha (k := 23) rfl
                have f388 := zf hS_s63 ha (k := 24) rfl
                have f389 := zf hS_s63 ha (k := 38) rfl
                have f390 := zf hS_s63 ha (k := 52) rfl
                refine j_callV hx hG (c_X12_turn hst a) lk_RX12_412 ha (by decide) rfl rfl rfl rfl [] ⟨rfl, hG, hS_s63, ha, (by omega), ((by have q1 : s63 (gP G a 34) = s0 (gP G a 34) := (by rw [hF_s63 (gP G a 34) (by rw [(zr (k := 34) (t2 := 91) hG ha rfl)]; decide), hF_s61 (gP G a 34) (by rw [(zr (k := 34) (t2 := 91) hG ha rfl)]; decide), hF_s60 (gP G a 34) (by rw [(zr (k := 34) (t2 := 91) hG ha rfl)]; decide), e_s59, zU_ne (zne ha (zr (k := 34) (t2 := 91) hG ha rfl) (by decide)), e_s8, zU_ne (zne ha (zr (k := 34) (t2 := 91) hG ha rfl) (by decide)), e_s7, zU_ne (zne ha (zr (k := 34) (t2 := 91) hG ha rfl) (by decide)), hF_s2 (gP G a 34) (by rw [(zr (k := 34) (t2 := 91) hG ha rfl)]; decide)]); have q2 : s63 (gP G a 35) = s0 (gP G a 35) := (by rw [hF_s63 (gP G a 35) (by rw [(zr (k := 35) (t2 := 92) hG ha rfl)]; decide), hF_s61 (gP G a 35) (by rw [(zr (k := 35) (t2 := 92) hG ha rfl)]; decide), hF_s60 (gP G a 35) (by rw [(zr (k := 35) (t2 := 92) hG ha rfl)]; decide), e_s59, zU_ne (zne ha (zr (k := 35) (t2 := 92) hG ha rfl) (by decide)), e_s8, zU_ne (zne ha (zr (k := 35) (t2 := 92) hG ha rfl) (by decide)), e_s7, zU_ne (zne ha (zr (k := 35) (t2 := 92) hG ha rfl) (by decide)), hF_s2 (gP G a 35) (by rw [(zr (k := 35) (t2 := 92) hG ha rfl)]; decide)]); have q3 : s63 (gP G a 37) = s0 (gP G a 37) := (by rw [hF_s63 (gP G a 37) (by rw [(zr (k := 37) (t2 := 94) hG ha rfl)]; decide), hF_s61 (gP G a 37) (by rw [(zr (k := 37) (t2 := 94) hG ha rfl)]; decide), hF_s60 (gP G a 37) (by rw [(zr (k := 37) (t2 := 94) hG ha rfl)]; decide), e_s59, zU_ne (zne ha (zr (k := 37) (t2 := 94) hG ha rfl) (by decide)), e_s8, zU_ne (zne ha (zr (k := 37) (t2 := 94) hG ha rfl) (by decide)), e_s7, zU_ne (zne ha (zr (k := 37) (t2 := 94) hG ha rfl) (by decide)), hF_s2 (gP G a 37) (by rw [(zr (k := 37) (t2 := 94) hG ha rfl)]; decide)]); rw [q1, q2, q3]; exact e1)), (by omega)⟩ rfl rfl ⟨by decide, by decide⟩ ⟨by decide, by decide⟩ (k2 := 0) (n2 := 0) rfl rfl (Nat.le_of_ble_eq_true rfl) dX12_findEnds_68 (kIM (fun v391 s101 hS_s101 hF_s101 q392 => ?_))
                refine j_pop hx dX12_findEnds_71 rfl ?_
                refine j_aload_n hx 0 dX12_findEnds_72 rfl ?_
                refine j_dup hx dX12_findEnds_73 rfl ?_
                have f393 := zf hS_s101 ha (k := 52) rfl
                refine g13_52 hx hG ha kf_RX12_429 rfl dX12_findEnds_74 ?_
                refine j_iconst hx dX12_findEnds_77 ?_
                refine j_iadd hx (r := (s101 a 52) + 1) dX12_findEnds_78 (by omega) ?_
                refine p13_52 hx hG ha kf_RX12_429 dX12_findEnds_79 ?_
                obtain ⟨s102, e_s102⟩ : ∃ z, z = zU s101 a 52 ((s101 a 52) + 1) := ⟨_, rfl⟩
                rw [← e_s102]
                have hS_s102 : zSK G s102 := by rw [e_s102]; exact zSK_F hS_s101 ha rfl rfl rfl (by omega)
                refine j_aload_n hx 0 dX12_findEnds_82 rfl ?_
                refine j_aload_n hx 0 dX12_findEnds_83 rfl ?_
                refine g13_52 hx hG ha kf_RX12_429 (v := (s101 a 52) + 1) (by rw [e_s102, zU_eq]) dX12_findEnds_84 ?_
                have g394 : zc (s102 (gP G a 27)) = zc (s101 (gP G a 27)) := by rw [e_s102, zU_ne (zne ha (zr (k := 27) (t2 := 84) hG ha rfl) (by decide))]
                refine j_callV hx hG (c_X12_writes hst a ((s101 a 52) + 1)) lk_RX12_435 ha (by decide) rfl rfl rfl rfl [.int (zI ((s101 a 52) + 1))] ⟨rfl, hG, hS_s102, ha, (by omega), (by omega)⟩ rfl rfl ⟨by decide, by decide⟩ ⟨by decide, by decide⟩ (k2 := 0) (n2 := 0) rfl rfl (Nat.le_of_ble_eq_true rfl) dX12_findEnds_87 (kVM (fun s103 hS_s103 hF_s103 q396 => ?_))
                refine j_aload_n hx 0 dX12_findEnds_90 rfl ?_
                refine j_aload_n hx 0 dX12_findEnds_91 rfl ?_
                refine g13_52 hx hG ha kf_RX12_429 (v := (s101 a 52) + 1) (by rw [(zFr_g hF_s103 ha (by decide)), e_s102, zU_eq]) dX12_findEnds_92 ?_
                refine j_callV hx hG (c_X12_earlier hst a ((s101 a 52) + 1)) lk_RX12_438 ha (by decide) rfl rfl rfl rfl [.int (zI ((s101 a 52) + 1))] ⟨rfl, hG, hS_s103, ha, (by omega), ((by have q1 : s103 (gP G a 34) = s0 (gP G a 34) := (by rw [hF_s103 (gP G a 34) (by rw [(zr (k := 34) (t2 := 91) hG ha rfl)]; decide), e_s102, zU_ne (zne ha (zr (k := 34) (t2 := 91) hG ha rfl) (by decide)), hF_s101 (gP G a 34) (by rw [(zr (k := 34) (t2 := 91) hG ha rfl)]; decide), hF_s63 (gP G a 34) (by rw [(zr (k := 34) (t2 := 91) hG ha rfl)]; decide), hF_s61 (gP G a 34) (by rw [(zr (k := 34) (t2 := 91) hG ha rfl)]; decide), hF_s60 (gP G a 34) (by rw [(zr (k := 34) (t2 := 91) hG ha rfl)]; decide), e_s59, zU_ne (zne ha (zr (k := 34) (t2 := 91) hG ha rfl) (by decide)), e_s8, zU_ne (zne ha (zr (k := 34) (t2 := 91) hG ha rfl) (by decide)), e_s7, zU_ne (zne ha (zr (k := 34) (t2 := 91) hG ha rfl) (by decide)), hF_s2 (gP G a 34) (by rw [(zr (k := 34) (t2 := 91) hG ha rfl)]; decide)]); have q2 : s103 (gP G a 35) = s0 (gP G a 35) := (by rw [hF_s103 (gP G a 35) (by rw [(zr (k := 35) (t2 := 92) hG ha rfl)]; decide), e_s102, zU_ne (zne ha (zr (k := 35) (t2 := 92) hG ha rfl) (by decide)), hF_s101 (gP G a 35) (by rw [(zr (k := 35) (t2 := 92) hG ha rfl)]; decide), hF_s63 (gP G a 35) (by rw [(zr (k := 35) (t2 := 92) hG ha rfl)]; decide), hF_s61 (gP G a 35) (by rw [(zr (k := 35) (t2 := 92) hG ha rfl)]; decide), hF_s60 (gP G a 35) (by rw [(zr (k := 35) (t2 := 92) hG ha rfl)]; decide), e_s59, zU_ne (zne ha (zr (k := 35) (t2 := 92) hG ha rfl) (by decide)), e_s8, zU_ne (zne ha (zr (k := 35) (t2 := 92) hG ha rfl) (by decide)), e_s7, zU_ne (zne ha (zr (k := 35) (t2 := 92) hG ha rfl) (by decide)), hF_s2 (gP G a 35) (by rw [(zr (k := 35) (t2 := 92) hG ha rfl)]; decide)]); have q3 : s103 (gP G a 37) = s0 (gP G a 37) := (by rw [hF_s103 (gP G a 37) (by rw [(zr (k := 37) (t2 := 94) hG ha rfl)]; decide), e_s102, zU_ne (zne ha (zr (k := 37) (t2 := 94) hG ha rfl) (by decide)), hF_s101 (gP G a 37) (by rw [(zr (k := 37) (t2 := 94) hG ha rfl)]; decide), hF_s63 (gP G a 37) (by rw [(zr (k := 37) (t2 := 94) hG ha rfl)]; decide), hF_s61 (gP G a 37) (by rw [(zr (k := 37) (t2 := 94) hG ha rfl)]; decide), hF_s60 (gP G a 37) (by rw [(zr (k := 37) (t2 := 94) hG ha rfl)]; decide), e_s59, zU_ne (zne ha (zr (k := 37) (t2 := 94) hG ha rfl) (by decide)), e_s8, zU_ne (zne ha (zr (k := 37) (t2 := 94) hG ha rfl) (by decide)), e_s7, zU_ne (zne ha (zr (k := 37) (t2 := 94) hG ha rfl) (by decide)), hF_s2 (gP G a 37) (by rw [(zr (k := 37) (t2 := 94) hG ha rfl)]; decide)]); rw [q1, q2, q3]; exact e1)), ((by have q1 : s103 (gP G a 49) = s63 (gP G a 49) := (by rw [hF_s103 (gP G a 49) (by rw [(zr (k := 49) (t2 := 102) hG ha rfl)]; decide), e_s102, zU_ne (zne ha (zr (k := 49) (t2 := 102) hG ha rfl) (by decide)), hF_s101 (gP G a 49) (by rw [(zr (k := 49) (t2 := 102) hG ha rfl)]; decide)]); have q2 : s103 (gP G a 50) = s63 (gP G a 50) := (by rw [hF_s103 (gP G a 50) (by rw [(zr (k := 50) (t2 := 103) hG ha rfl)]; decide), e_s102, zU_ne (zne ha (zr (k := 50) (t2 := 103) hG ha rfl) (by decide)), hF_s101 (gP G a 50) (by rw [(zr (k := 50) (t2 := 103) hG ha rfl)]; decide)]); rw [q1, q2]; exact (zCh_n fA78 (by omega))))⟩ rfl rfl ⟨by decide, by decide⟩ ⟨by decide, by decide⟩ (k2 := 0) (n2 := 0) rfl rfl (Nat.le_of_ble_eq_true rfl) dX12_findEnds_95 (kIM (fun v397 s104 hS_s104 hF_s104 q398 => ?_))
                refine j_istore_n hx [(1, .int (zI v397)), (0, .ref a)] dX12_findEnds_98 (by decide) rfl ?_
                refine j_aload_n hx 1 dX12_findEnds_99 rfl ?_
                refine j_callV hx hG (c_X12_isOver hst a) lk_RX12_328 ha (by decide) rfl rfl rfl rfl [] ⟨rfl, hG, hS_s104, ha⟩ rfl rfl ⟨by decide, by decide⟩ ⟨by decide, by decide⟩ (k2 := 0) (n2 := 0) rfl rfl (Nat.le_of_ble_eq_true rfl) dX12_findEnds_100 (kIP (fun v399 q400 => ?_))
                refine j_if_eq hx 114 dX12_findEnds_103 rfl (by omega) (fun h401 => ?_) (fun h401 => ?_)
                · skip
                  refine j_iload_n hx 0 dX12_findEnds_114 rfl ?_
                  refine j_iconst hx dX12_findEnds_115 ?_
                  refine j_icmp_eq hx 137 dX12_findEnds_116 rfl (by omega) ⟨by decide, by decide⟩ (fun h402 => ?_) (fun h402 => ?_)
                  · skip
                    refine j_aload_n hx 1 dX12_findEnds_137 rfl ?_
                    refine g13_52 hx hG ha kf_RX12_429 (v := (s101 a 52) + 1) (by rw [(zFr_g hF_s104 ha (by decide)), (zFr_g hF_s103 ha (by decide)), e_s102, zU_eq]) dX12_findEnds_138 ?_
                    refine j_sipush hx dX12_findEnds_141 rfl ?_
                    refine j_icmp_ne hx 152 dX12_findEnds_144 rfl (by omega) ⟨by decide, by decide⟩ (fun h403 => ?_) (fun h403 => ?_)
                    · skip
                      refine j_goto hx 59 dX12_findEnds_152 rfl ?_
                      have g404 : s104 a 52 = (s101 a 52) + 1 := (by rw [(zFr_g hF_s104 ha (by decide)), (zFr_g hF_s103 ha (by decide)), e_s102, zU_eq])
                      have g405 : s104 a 0 = s101 a 0 := (by rw [(zFr_g hF_s104 ha (by decide)), (zFr_g hF_s103 ha (by decide)), e_s102, zU_at (Or.inr (by decide))])
                      have f406 := zf hS_s101 ha (k := 0) rfl
                      have g407 : s104 a 3 = s101 a 3 := (by rw [(zFr_g hF_s104 ha (by decide)), (zFr_g hF_s103 ha (by decide)), e_s102, zU_at (Or.inr (by decide))])
                      have f408 := zf hS_s101 ha (k := 3) rfl
                      have g409 : s104 a 4 = s101 a 4 := (by rw [(zFr_g hF_s104 ha (by decide)), (zFr_g hF_s103 ha (by decide)), e_s102, zU_at (Or.inr (by decide))])
                      have f410 := zf hS_s101 ha (k := 4) rfl
                      have g411 : s104 a 5 = s101 a 5 := (by rw [(zFr_g hF_s104 ha (by decide)), (zFr_g hF_s103 ha (by decide)), e_s102, zU_at (Or.inr (by decide))])
                      have f412 := zf hS_s101 ha (k := 5) rfl
                      have g413 : s104 a 7 = s101 a 7 := (by rw [(zFr_g hF_s104 ha (by decide)), (zFr_g hF_s103 ha (by decide)), e_s102, zU_at (Or.inr (by decide))])
                      have f414 := zf hS_s101 ha (k := 7) rfl
                      have g415 : s104 a 21 = s101 a 21 := (by rw [(zFr_g hF_s104 ha (by decide)), (zFr_g hF_s103 ha (by decide)), e_s102, zU_at (Or.inr (by decide))])
                      have f416 := zf hS_s101 ha (k := 21) rfl
                      have g417 : s104 a 22 = s101 a 22 := (by rw [(zFr_g hF_s104 ha (by decide)), (zFr_g hF_s103 ha (by decide)), e_s102, zU_at (Or.inr (by decide))])
                      have f418 := zf hS_s101 ha (k := 22) rfl
                      have g419 : s104 a 23 = s101 a 23 := (by rw [(zFr_g hF_s104 ha (by decide)), (zFr_g hF_s103 ha (by decide)), e_s102, zU_at (Or.inr (by decide))])
                      have f420 := zf hS_s101 ha (k := 23) rfl
                      have g421 : s104 a 24 = s101 a 24 := (by rw [(zFr_g hF_s104 ha (by decide)), (zFr_g hF_s103 ha (by decide)), e_s102, zU_at (Or.inr (by decide))])
                      have f422 := zf hS_s101 ha (k := 24) rfl
                      have g423 : s104 a 38 = s101 a 38 := (by rw [(zFr_g hF_s104 ha (by decide)), (zFr_g hF_s103 ha (by decide)), e_s102, zU_at (Or.inr (by decide))])
                      have f424 := zf hS_s101 ha (k := 38) rfl
                      have g425 : zc (s104 (gP G a 27)) = zc (s101 (gP G a 27)) := by rw [hF_s104 (gP G a 27) (by rw [(zr (k := 27) (t2 := 84) hG ha rfl)]; decide), hF_s103 (gP G a 27) (by rw [(zr (k := 27) (t2 := 84) hG ha rfl)]; decide), e_s102, zU_ne (zne ha (zr (k := 27) (t2 := 84) hG ha rfl) (by decide))]
                      have g426 : s104 a 51 = s101 a 51 := (by rw [(zFr_g hF_s104 ha (by decide)), (zFr_g hF_s103 ha (by decide)), e_s102, zU_at (Or.inr (by decide))])
                      have f427 := zf hS_s101 ha (k := 51) rfl
                      have g428 : s104 (gP G a 27) 488 = s101 (gP G a 27) 488 := (by rw [(zFr_g hF_s104 (zr (k := 27) (t2 := 84) hG ha rfl) (by decide)), (zFr_g hF_s103 (zr (k := 27) (t2 := 84) hG ha rfl) (by decide)), e_s102, zU_at (Or.inl (zne ha (zr (k := 27) (t2 := 84) hG ha rfl) (by decide)))])
                      exact j_sub [1] [(0, .ref a)] rfl (ih_c59_62 s104 (by omega) hS_s104 (zFr_t (zFr_t (zFr_u (zFr_t (zFr_t zFr_rf hF_s63 (by decide)) hF_s101 (by decide)) e_s102 ha (by decide)) hF_s103 (by decide)) hF_s104 (by decide)) (by omega) (by omega) (by omega) (by omega) (by omega) (by omega) (by omega) (by omega) (by omega) (by omega) (by omega) (by omega) (zCh_n q398.2 (by omega)) (by omega) (by omega))
                    · skip
                      refine j_aload_n hx 1 dX12_findEnds_147 rfl ?_
                      refine j_iconst hx dX12_findEnds_148 ?_
                      refine p13_51 hx hG ha kf_RX12_432 dX12_findEnds_149 ?_
                      obtain ⟨s105, e_s105⟩ : ∃ z, z = zU s104 a 51 0 := ⟨_, rfl⟩
                      rw [← e_s105]
                      have hS_s105 : zSK G s105 := by rw [e_s105]; exact zSK_F hS_s104 ha rfl rfl rfl (by omega)
                      refine j_goto hx 59 dX12_findEnds_152 rfl ?_
                      have g429 : s105 a 52 = (s101 a 52) + 1 := (by rw [e_s105, zU_at (Or.inr (by decide)), (zFr_g hF_s104 ha (by decide)), (zFr_g hF_s103 ha (by decide)), e_s102, zU_eq])
                      have g430 : s105 a 0 = s101 a 0 := (by rw [e_s105, zU_at (Or.inr (by decide)), (zFr_g hF_s104 ha (by decide)), (zFr_g hF_s103 ha (by decide)), e_s102, zU_at (Or.inr (by decide))])
                      have f431 := zf hS_s101 ha (k := 0) rfl
                      have g432 : s105 a 3 = s101 a 3 := (by rw [e_s105, zU_at (Or.inr (by decide)), (zFr_g hF_s104 ha (by decide)), (zFr_g hF_s103 ha (by decide)), e_s102, zU_at (Or.inr (by decide))])
                      have f433 := zf hS_s101 ha (k := 3) rfl
                      have g434 : s105 a 4 = s101 a 4 := (by rw [e_s105, zU_at (Or.inr (by decide)), (zFr_g hF_s104 ha (by decide)), (zFr_g hF_s103 ha (by decide)), e_s102, zU_at (Or.inr (by decide))])
                      have f435 := zf hS_s101 ha (k := 4) rfl
                      have g436 : s105 a 5 = s101 a 5 := (by rw [e_s105, zU_at (Or.inr (by decide)), (zFr_g hF_s104 ha (by decide)), (zFr_g hF_s103 ha (by decide)), e_s102, zU_at (Or.inr (by decide))])
                      have f437 := zf hS_s101 ha (k := 5) rfl
                      have g438 : s105 a 7 = s101 a 7 := (by rw [e_s105, zU_at (Or.inr (by decide)), (zFr_g hF_s104 ha (by decide)), (zFr_g hF_s103 ha (by decide)), e_s102, zU_at (Or.inr (by decide))])
                      have f439 := zf hS_s101 ha (k := 7) rfl
                      have g440 : s105 a 21 = s101 a 21 := (by rw [e_s105, zU_at (Or.inr (by decide)), (zFr_g hF_s104 ha (by decide)), (zFr_g hF_s103 ha (by decide)), e_s102, zU_at (Or.inr (by decide))])
                      have f441 := zf hS_s101 ha (k := 21) rfl
                      have g442 : s105 a 22 = s101 a 22 := (by rw [e_s105, zU_at (Or.inr (by decide)), (zFr_g hF_s104 ha (by decide)), (zFr_g hF_s103 ha (by decide)), e_s102, zU_at (Or.inr (by decide))])
                      have f443 := zf hS_s101 ha (k := 22) rfl
                      have g444 : s105 a 23 = s101 a 23 := (by rw [e_s105, zU_at (Or.inr (by decide)), (zFr_g hF_s104 ha (by decide)), (zFr_g hF_s103 ha (by decide)), e_s102, zU_at (Or.inr (by decide))])
                      have f445 := zf hS_s101 ha (k := 23) rfl
                      have g446 : s105 a 24 = s101 a 24 := (by rw [e_s105, zU_at (Or.inr (by decide)), (zFr_g hF_s104 ha (by decide)), (zFr_g hF_s103 ha (by decide)), e_s102, zU_at (Or.inr (by decide))])
                      have f447 := zf hS_s101 ha (k := 24) rfl
                      have g448 : s105 a 38 = s101 a 38 := (by rw [e_s105, zU_at (Or.inr (by decide)), (zFr_g hF_s104 ha (by decide)), (zFr_g hF_s103 ha (by decide)), e_s102, zU_at (Or.inr (by decide))])
                      have f449 := zf hS_s101 ha (k := 38) rfl
                      have g450 : zc (s105 (gP G a 27)) = zc (s101 (gP G a 27)) := by rw [e_s105, zU_ne (zne ha (zr (k := 27) (t2 := 84) hG ha rfl) (by decide)), hF_s104 (gP G a 27) (by rw [(zr (k := 27) (t2 := 84) hG ha rfl)]; decide), hF_s103 (gP G a 27) (by rw [(zr (k := 27) (t2 := 84) hG ha rfl)]; decide), e_s102, zU_ne (zne ha (zr (k := 27) (t2 := 84) hG ha rfl) (by decide))]
                      have g451 : s105 a 51 = 0 := (by rw [e_s105, zU_eq])
                      have g452 : s105 (gP G a 27) 488 = s101 (gP G a 27) 488 := (by rw [e_s105, zU_at (Or.inl (zne ha (zr (k := 27) (t2 := 84) hG ha rfl) (by decide))), (zFr_g hF_s104 (zr (k := 27) (t2 := 84) hG ha rfl) (by decide)), (zFr_g hF_s103 (zr (k := 27) (t2 := 84) hG ha rfl) (by decide)), e_s102, zU_at (Or.inl (zne ha (zr (k := 27) (t2 := 84) hG ha rfl) (by decide)))])
                      exact j_sub [1] [(0, .ref a)] rfl (ih_c59_62 s105 (by omega) hS_s105 (zFr_u (zFr_t (zFr_t (zFr_u (zFr_t (zFr_t zFr_rf hF_s63 (by decide)) hF_s101 (by decide)) e_s102 ha (by decide)) hF_s103 (by decide)) hF_s104 (by decide)) e_s105 ha (by decide)) (by omega) (by omega) (by omega) (by omega) (by omega) (by omega) (by omega) (by omega) (by omega) (by omega) (by omega) (by omega) (by have q1 : s105 (gP G a 49) = s104 (gP G a 49) := (by rw [e_s105, zU_ne (zne ha (zr (k := 49) (t2 := 102) hG ha rfl) (by decide))]); have q2 : s105 (gP G a 50) = s104 (gP G a 50) := (by rw [e_s105, zU_ne (zne ha (zr (k := 50) (t2 := 103) hG ha rfl) (by decide))]); rw [q1, q2]; exact (zCh_n q398.2 (by omega))) (by omega) (by omega))
                  · skip
                    refine j_aload_n hx 1 dX12_findEnds_119 rfl ?_
                    refine j_iconst hx dX12_findEnds_120 ?_
                    refine p13_51 hx hG ha kf_RX12_432 dX12_findEnds_121 ?_
                    obtain ⟨s106, e_s106⟩ : ∃ z, z = zU s104 a 51 2 := ⟨_, rfl⟩
                    rw [← e_s106]
                    have hS_s106 : zSK G s106 := by rw [e_s106]; exact zSK_F hS_s104 ha rfl rfl rfl (by omega)
                    refine j_aload_n hx 1 dX12_findEnds_124 rfl ?_
                    refine j_aload_n hx 1 dX12_findEnds_125 rfl ?_
                    refine g13_52 hx hG ha kf_RX12_429 (v := (s101 a 52) + 1) (by rw [e_s106, zU_at (Or.inr (by decide)), (zFr_g hF_s104 ha (by decide)), (zFr_g hF_s103 ha (by decide)), e_s102, zU_eq]) dX12_findEnds_126 ?_
                    refine j_iload_n hx 0 dX12_findEnds_129 rfl ?_
                    refine j_isub hx (r := (s101 a 52) - v397 + 1) dX12_findEnds_130 (by omega) ?_
                    refine p13_53 hx hG ha kf_RX12_426 dX12_findEnds_131 ?_
                    obtain ⟨s107, e_s107⟩ : ∃ z, z = zU s106 a 53 ((s101 a 52) - v397 + 1) := ⟨_, rfl⟩
                    rw [← e_s107]
                    have hS_s107 : zSK G s107 := by rw [e_s107]; exact zSK_F hS_s106 ha rfl rfl rfl (by omega)
                    refine j_goto hx 152 dX12_findEnds_134 rfl ?_
                    refine j_goto hx 59 dX12_findEnds_152 rfl ?_
                    have g453 : s107 a 52 = (s101 a 52) + 1 := (by rw [e_s107, zU_at (Or.inr (by decide)), e_s106, zU_at (Or.inr (by decide)), (zFr_g hF_s104 ha (by decide)), (zFr_g hF_s103 ha (by decide)), e_s102, zU_eq])
                    have g454 : s107 a 0 = s101 a 0 := (by rw [e_s107, zU_at (Or.inr (by decide)), e_s106, zU_at (Or.inr (by decide)), (zFr_g hF_s104 ha (by decide)), (zFr_g hF_s103 ha (by decide)), e_s102, zU_at (Or.inr (by decide))])
                    have f455 := zf hS_s101 ha (k := 0) rfl
                    have g456 : s107 a 3 = s101 a 3 := (by rw [e_s107, zU_at (Or.inr (by decide)), e_s106, zU_at (Or.inr (by decide)), (zFr_g hF_s104 ha (by decide)), (zFr_g hF_s103 ha (by decide)), e_s102, zU_at (Or.inr (by decide))])
                    have f457 := zf hS_s101 ha (k := 3) rfl
                    have g458 : s107 a 4 = s101 a 4 := (by rw [e_s107, zU_at (Or.inr (by decide)), e_s106, zU_at (Or.inr (by decide)), (zFr_g hF_s104 ha (by decide)), (zFr_g hF_s103 ha (by decide)), e_s102, zU_at (Or.inr (by decide))])
                    have f459 := zf hS_s101 ha (k := 4) rfl
                    have g460 : s107 a 5 = s101 a 5 := (by rw [e_s107, zU_at (Or.inr (by decide)), e_s106, zU_at (Or.inr (by decide)), (zFr_g hF_s104 ha (by decide)), (zFr_g hF_s103 ha (by decide)), e_s102, zU_at (Or.inr (by decide))])
                    have f461 := zf hS_s101 ha (k := 5) rfl
                    have g462 : s107 a 7 = s101 a 7 := (by rw [e_s107, zU_at (Or.inr (by decide)), e_s106, zU_at (Or.inr (by decide)), (zFr_g hF_s104 ha (by decide)), (zFr_g hF_s103 ha (by decide)), e_s102, zU_at (Or.inr (by decide))])
                    have f463 := zf hS_s101 ha (k := 7) rfl
                    have g464 : s107 a 21 = s101 a 21 := (by rw [e_s107, zU_at (Or.inr (by decide)), e_s106, zU_at (Or.inr (by decide)), (zFr_g hF_s104 ha (by decide)), (zFr_g hF_s103 ha (by decide)), e_s102, zU_at (Or.inr (by decide))])
                    have f465 := zf hS_s101 ha (k := 21) rfl
                    have g466 : s107 a 22 = s101 a 22 := (by rw [e_s107, zU_at (Or.inr (by decide)), e_s106, zU_at (Or.inr (by decide)), (zFr_g hF_s104 ha (by decide)), (zFr_g hF_s103 ha (by decide)), e_s102, zU_at (Or.inr (by decide))])
                    have f467 := zf hS_s101 ha (k := 22) rfl
                    have g468 : s107 a 23 = s101 a 23 := (by rw [e_s107, zU_at (Or.inr (by decide)), e_s106, zU_at (Or.inr (by decide)), (zFr_g hF_s104 ha (by decide)), (zFr_g hF_s103 ha (by decide)), e_s102, zU_at (Or.inr (by decide))])
                    have f469 := zf hS_s101 ha (k := 23) rfl
                    have g470 : s107 a 24 = s101 a 24 := (by rw [e_s107, zU_at (Or.inr (by decide)), e_s106, zU_at (Or.inr (by decide)), (zFr_g hF_s104 ha (by decide)), (zFr_g hF_s103 ha (by decide)), e_s102, zU_at (Or.inr (by decide))])
                    have f471 := zf hS_s101 ha (k := 24) rfl
                    have g472 : s107 a 38 = s101 a 38 := (by rw [e_s107, zU_at (Or.inr (by decide)), e_s106, zU_at (Or.inr (by decide)), (zFr_g hF_s104 ha (by decide)), (zFr_g hF_s103 ha (by decide)), e_s102, zU_at (Or.inr (by decide))])
                    have f473 := zf hS_s101 ha (k := 38) rfl
                    have g474 : zc (s107 (gP G a 27)) = zc (s101 (gP G a 27)) := by rw [e_s107, zU_ne (zne ha (zr (k := 27) (t2 := 84) hG ha rfl) (by decide)), e_s106, zU_ne (zne ha (zr (k := 27) (t2 := 84) hG ha rfl) (by decide)), hF_s104 (gP G a 27) (by rw [(zr (k := 27) (t2 := 84) hG ha rfl)]; decide), hF_s103 (gP G a 27) (by rw [(zr (k := 27) (t2 := 84) hG ha rfl)]; decide), e_s102, zU_ne (zne ha (zr (k := 27) (t2 := 84) hG ha rfl) (by decide))]
                    have g475 : s107 a 51 = 2 := (by rw [e_s107, zU_at (Or.inr (by decide)), e_s106, zU_eq])
                    have g476 : s107 (gP G a 27) 488 = s101 (gP G a 27) 488 := (by rw [e_s107, zU_at (Or.inl (zne ha (zr (k := 27) (t2 := 84) hG ha rfl) (by decide))), e_s106, zU_at (Or.inl (zne ha (zr (k := 27) (t2 := 84) hG ha rfl) (by decide))), (zFr_g hF_s104 (zr (k := 27) (t2 := 84) hG ha rfl) (by decide)), (zFr_g hF_s103 (zr (k := 27) (t2 := 84) hG ha rfl) (by decide)), e_s102, zU_at (Or.inl (zne ha (zr (k := 27) (t2 := 84) hG ha rfl) (by decide)))])
                    exact j_sub [1] [(0, .ref a)] rfl (ih_c59_62 s107 (by omega) hS_s107 (zFr_u (zFr_u (zFr_t (zFr_t (zFr_u (zFr_t (zFr_t zFr_rf hF_s63 (by decide)) hF_s101 (by decide)) e_s102 ha (by decide)) hF_s103 (by decide)) hF_s104 (by decide)) e_s106 ha (by decide)) e_s107 ha (by decide)) (by omega) (by omega) (by omega) (by omega) (by omega) (by omega) (by omega) (by omega) (by omega) (by omega) (by omega) (by omega) (by have q1 : s107 (gP G a 49) = s104 (gP G a 49) := (by rw [e_s107, zU_ne (zne ha (zr (k := 49) (t2 := 102) hG ha rfl) (by decide)), e_s106, zU_ne (zne ha (zr (k := 49) (t2 := 102) hG ha rfl) (by decide))]); have q2 : s107 (gP G a 50) = s104 (gP G a 50) := (by rw [e_s107, zU_ne (zne ha (zr (k := 50) (t2 := 103) hG ha rfl) (by decide)), e_s106, zU_ne (zne ha (zr (k := 50) (t2 := 103) hG ha rfl) (by decide))]); rw [q1, q2]; exact (zCh_n q398.2 (by omega))) (by omega) (by omega))
                · skip
                  refine j_aload_n hx 1 dX12_findEnds_106 rfl ?_
                  refine j_iconst hx dX12_findEnds_107 ?_
                  refine p13_51 hx hG ha kf_RX12_432 dX12_findEnds_108 ?_
                  obtain ⟨s108, e_s108⟩ : ∃ z, z = zU s104 a 51 1 := ⟨_, rfl⟩
                  rw [← e_s108]
                  have hS_s108 : zSK G s108 := by rw [e_s108]; exact zSK_F hS_s104 ha rfl rfl rfl (by omega)
                  refine j_goto hx 152 dX12_findEnds_111 rfl ?_
                  refine j_goto hx 59 dX12_findEnds_152 rfl ?_
                  have g477 : s108 a 52 = (s101 a 52) + 1 := (by rw [e_s108, zU_at (Or.inr (by decide)), (zFr_g hF_s104 ha (by decide)), (zFr_g hF_s103 ha (by decide)), e_s102, zU_eq])
                  have g478 : s108 a 0 = s101 a 0 := (by rw [e_s108, zU_at (Or.inr (by decide)), (zFr_g hF_s104 ha (by decide)), (zFr_g hF_s103 ha (by decide)), e_s102, zU_at (Or.inr (by decide))])
                  have f479 := zf hS_s101 ha (k := 0) rfl
                  have g480 : s108 a 3 = s101 a 3 := (by rw [e_s108, zU_at (Or.inr (by decide)), (zFr_g hF_s104 ha (by decide)), (zFr_g hF_s103 ha (by decide)), e_s102, zU_at (Or.inr (by decide))])
                  have f481 := zf hS_s101 ha (k := 3) rfl
                  have g482 : s108 a 4 = s101 a 4 := (by rw [e_s108, zU_at (Or.inr (by decide)), (zFr_g hF_s104 ha (by decide)), (zFr_g hF_s103 ha (by decide)), e_s102, zU_at (Or.inr (by decide))])
                  have f483 := zf hS_s101 ha (k := 4) rfl
                  have g484 : s108 a 5 = s101 a 5 := (by rw [e_s108, zU_at (Or.inr (by decide)), (zFr_g hF_s104 ha (by decide)), (zFr_g hF_s103 ha (by decide)), e_s102, zU_at (Or.inr (by decide))])
                  have f485 := zf hS_s101 ha (k := 5) rfl
                  have g486 : s108 a 7 = s101 a 7 := (by rw [e_s108, zU_at (Or.inr (by decide)), (zFr_g hF_s104 ha (by decide)), (zFr_g hF_s103 ha (by decide)), e_s102, zU_at (Or.inr (by decide))])
                  have f487 := zf hS_s101 ha (k := 7) rfl
                  have g488 : s108 a 21 = s101 a 21 := (by rw [e_s108, zU_at (Or.inr (by decide)), (zFr_g hF_s104 ha (by decide)), (zFr_g hF_s103 ha (by decide)), e_s102, zU_at (Or.inr (by decide))])
                  have f489 := zf hS_s101 ha (k := 21) rfl
                  have g490 : s108 a 22 = s101 a 22 := (by rw [e_s108, zU_at (Or.inr (by decide)), (zFr_g hF_s104 ha (by decide)), (zFr_g hF_s103 ha (by decide)), e_s102, zU_at (Or.inr (by decide))])
                  have f491 := zf hS_s101 ha (k := 22) rfl
                  have g492 : s108 a 23 = s101 a 23 := (by rw [e_s108, zU_at (Or.inr (by decide)), (zFr_g hF_s104 ha (by decide)), (zFr_g hF_s103 ha (by decide)), e_s102, zU_at (Or.inr (by decide))])
                  have f493 := zf hS_s101 ha (k := 23) rfl
                  have g494 : s108 a 24 = s101 a 24 := (by rw [e_s108, zU_at (Or.inr (by decide)), (zFr_g hF_s104 ha (by decide)), (zFr_g hF_s103 ha (by decide)), e_s102, zU_at (Or.inr (by decide))])
                  have f495 := zf hS_s101 ha (k := 24) rfl
                  have g496 : s108 a 38 = s101 a 38 := (by rw [e_s108, zU_at (Or.inr (by decide)), (zFr_g hF_s104 ha (by decide)), (zFr_g hF_s103 ha (by decide)), e_s102, zU_at (Or.inr (by decide))])
                  have f497 := zf hS_s101 ha (k := 38) rfl
                  have g498 : zc (s108 (gP G a 27)) = zc (s101 (gP G a 27)) := by rw [e_s108, zU_ne (zne ha (zr (k := 27) (t2 := 84) hG ha rfl) (by decide)), hF_s104 (gP G a 27) (by rw [(zr (k := 27) (t2 := 84) hG ha rfl)]; decide), hF_s103 (gP G a 27) (by rw [(zr (k := 27) (t2 := 84) hG ha rfl)]; decide), e_s102, zU_ne (zne ha (zr (k := 27) (t2 := 84) hG ha rfl) (by decide))]
                  have g499 : s108 a 51 = 1 := (by rw [e_s108, zU_eq])
                  have g500 : s108 (gP G a 27) 488 = s101 (gP G a 27) 488 := (by rw [e_s108, zU_at (Or.inl (zne ha (zr (k := 27) (t2 := 84) hG ha rfl) (by decide))), (zFr_g hF_s104 (zr (k := 27) (t2 := 84) hG ha rfl) (by decide)), (zFr_g hF_s103 (zr (k := 27) (t2 := 84) hG ha rfl) (by decide)), e_s102, zU_at (Or.inl (zne ha (zr (k := 27) (t2 := 84) hG ha rfl) (by decide)))])
                  exact j_sub [1] [(0, .ref a)] rfl (ih_c59_62 s108 (by omega) hS_s108 (zFr_u (zFr_t (zFr_t (zFr_u (zFr_t (zFr_t zFr_rf hF_s63 (by decide)) hF_s101 (by decide)) e_s102 ha (by decide)) hF_s103 (by decide)) hF_s104 (by decide)) e_s108 ha (by decide)) (by omega) (by omega) (by omega) (by omega) (by omega) (by omega) (by omega) (by omega) (by omega) (by omega) (by omega) (by omega) (by have q1 : s108 (gP G a 49) = s104 (gP G a 49) := (by rw [e_s108, zU_ne (zne ha (zr (k := 49) (t2 := 102) hG ha rfl) (by decide))]); have q2 : s108 (gP G a 50) = s104 (gP G a 50) := (by rw [e_s108, zU_ne (zne ha (zr (k := 50) (t2 := 103) hG ha rfl) (by decide))]); rw [q1, q2]; exact (zCh_n q398.2 (by omega))) (by omega) (by omega))
          have g501 : s61 a 52 = 0 := (by rw [(zFr_g hF_s61 ha (by decide)), (zFr_g hF_s60 ha (by decide)), e_s59, zU_at (Or.inr (by decide)), e_s8, zU_eq])
          have g502 : s61 a 51 = 1 := (by rw [(zFr_g hF_s61 ha (by decide)), (zFr_g hF_s60 ha (by decide)), e_s59, zU_eq])
          exact j_sub [0] [(0, .ref a)] rfl (c59_62 (2147483648 * 4) s61 (by omega) hS_s61 zFr_rf (by omega) (by omega) (by omega) (by omega) (by omega) (by omega) (by omega) (by omega) (by omega) (by omega) (by omega) (by omega) (zCh_n q259.2 (by omega)) (by omega) (by omega))
      · skip
        refine j_aload_n hx 0 dX12_findEnds_9 rfl ?_
        refine g13_50 hx hG ha kf_RX12_115 dX12_findEnds_10 ?_
        refine j_iload_n hx 1 dX12_findEnds_13 rfl ?_
        refine j_iconst hx dX12_findEnds_14 ?_
        refine j_iast hx hG (zr (k := 50) (t2 := 103) hG ha rfl) (by decide) rfl (zlen hG (zr (k := 50) (t2 := 103) hG ha rfl) (n := 8192) rfl rfl) (by omega) (by omega) (j := (v1).toNat) rfl dX12_findEnds_15 ?_
        obtain ⟨s109, e_s109⟩ : ∃ z, z = zU s2 (gP G a 50) (v1).toNat (-1) := ⟨_, rfl⟩
        rw [← e_s109]
        have hS_s109 : zSK G s109 := by rw [e_s109]; exact zSK_A hS_s2 (zr (k := 50) (t2 := 103) hG ha rfl) rfl rfl rfl (by omega)
        refine j_iinc hx 1 [(1, .int (zI (v1 + 1))), (0, .ref a)] dX12_findEnds_16 rfl (by omega) (by decide) rfl ?_
        refine j_goto hx 2 dX12_findEnds_19 rfl ?_
        exact j_sub [1, 0] [(0, .ref a), (1, .int (zI (v1 + 1)))] rfl (ih_c2_1 (v1 + 1) s109 (by omega) (by omega) hS_s109 (zFr_u (zFr_t zFr_rf hF_s2 (by decide)) e_s109 (zr (k := 50) (t2 := 103) hG ha rfl) (by decide)) (zAll_s hB1 e_s109 (by omega)))
  exact j_sub [1, 0] [(0, .ref a), (1, .int (zI 0))] rfl (c2_1 (2147483648 * 4) 0 s0 (by omega) (by omega) hS0 zFr_rf (fun j hj => absurd hj (by omega)))

set_option maxHeartbeats 1200000 in
set_option maxRecDepth 20000 in
theorem c_X12_back {E : zE} {l : Launch} (hst : l.stackTraces = false) (a : Nat) : Con E l yX12_back cX12_back 2 none { frames := 0, cells := 0, slots := 0, locals := 0 } (fun G s vs => vs = [.ref a] ∧ zGK G ∧ zSK G s ∧ (gT G a = 13)) (fun G s _ => pV (fun G2 s2 => G2 = G ∧ zSK G s2 ∧ zFr [84, 87] G s s2 ∧ zc (s2 (gP G a 27)) = zc (s (gP G a 46)) ∧ s2 (gP G a 27) 488 = s (gP G a 46) 488)) := by
  refine Con.mk hst (by decide) (fun G s vs h => by rw [h.1]; exact Nat.le_of_ble_eq_true rfl) ?_
  rintro X G s0 vs ⟨rfl, hG, hS0, ha⟩ rfl hx hq
  show JJ X E 2 G s0 0 0 [(0, .ref a)] 0 []
  refine j_iconst hx dX12_back_0 ?_
  refine j_istore_n hx [(1, .int (zI 0)), (0, .ref a)] dX12_back_1 (by decide) rfl ?_
  have c2_1 : ∀ (m_c2_1 : Nat) (v1 : Int) (s2 : zS), 2147483648 - v1 < m_c2_1 → (0 ≤ v1 ∧ v1 ≤ 515) → (zSK G s2) → (zFr [84] G s0 s2) → (zEq (v1).toNat (s2 (gP G a 27)) (s0 (gP G a 46))) → JJ X E 2 G s2 0 0 [(0, .ref a), (1, .int (zI v1))] 2 [] := by
    intro m_c2_1
    induction m_c2_1 with
    | zero => intro v1 s2 hm_c2_1 fA3 hS_s2 hF_s2 hE1; exfalso; omega
    | succ m_c2_1 ih_c2_1 => 
      intro v1 s2 hm_c2_1 fA3 hS_s2 hF_s2 hE1
      refine j_iload_n hx 1 dX12_back_2 rfl ?_
      refine j_sipush hx dX12_back_3 rfl ?_
      refine j_icmp_ge hx 27 dX12_back_6 rfl (by omega) ⟨by decide, by decide⟩ (fun h2 => ?_) (fun h2 => ?_)
      · skip
        have z3 := zEq_zc hE1 (by omega)
        refine j_iconst hx dX12_back_27 ?_
        refine j_istore_n hx [(1, .int (zI 0)), (0, .ref a)] dX12_back_28 (by decide) rfl ?_
        have c29_7 : ∀ (m_c29_7 : Nat) (v4 : Int) (s8 : zS), 2147483648 - v4 < m_c29_7 → (0 ≤ v4 ∧ v4 ≤ 5) → (zSK G s8) → (zFr [87] G s2 s8) → JJ X E 2 G s8 0 0 [(0, .ref a), (1, .int (zI v4))] 29 [] := by
          intro m_c29_7
          induction m_c29_7 with
          | zero => intro v4 s8 hm_c29_7 fA9 hS_s8 hF_s8; exfalso; omega
          | succ m_c29_7 ih_c29_7 => 
            intro v4 s8 hm_c29_7 fA9 hS_s8 hF_s8
            refine j_iload_n hx 1 dX12_back_29 rfl ?_
            refine j_iconst hx dX12_back_30 ?_
            refine j_icmp_ge hx 52 dX12_back_31 rfl (by omega) ⟨by decide, by decide⟩ (fun h5 => ?_) (fun h5 => ?_)
            · skip
              have g6 : zc (s8 (gP G a 27)) = zc (s2 (gP G a 27)) := by rw [hF_s8 (gP G a 27) (by rw [(zr (k := 27) (t2 := 84) hG ha rfl)]; decide)]
              have g7 : s8 (gP G a 27) 488 = s2 (gP G a 27) 488 := (by rw [(zFr_g hF_s8 (zr (k := 27) (t2 := 84) hG ha rfl) (by decide))])
              exact j_vret hx hq rfl (by decide) (by decide) dX12_back_52 ⟨rfl, rfl, hS_s8, (zFr_t (zFr_t zFr_rf hF_s2 (by decide)) hF_s8 (by decide)), ⟨by omega, by omega⟩⟩
            · skip
              refine j_aload_n hx 0 dX12_back_34 rfl ?_
              refine g13_30 hx hG ha kf_RX12_65 dX12_back_35 ?_
              refine j_iload_n hx 1 dX12_back_38 rfl ?_
              refine j_aload_n hx 0 dX12_back_39 rfl ?_
              refine g13_47 hx hG ha kf_RX12_105 dX12_back_40 ?_
              refine j_iload_n hx 1 dX12_back_43 rfl ?_
              have f8 := zaI (j := (v4).toNat) hS0 (zr (k := 47) (t2 := 100) hG ha rfl) rfl (zlen hG (zr (k := 47) (t2 := 100) hG ha rfl) (n := 5) rfl rfl) (show 0 ≤ v4 by omega) (by omega) rfl
              refine j_iald hx hG (zr (k := 47) (t2 := 100) hG ha rfl) (by decide) rfl (zlen hG (zr (k := 47) (t2 := 100) hG ha rfl) (n := 5) rfl rfl) (by omega) (by omega) (j := (v4).toNat) rfl (v := (s0 (gP G a 47) (v4).toNat)) (by rw [(zFr_g hF_s8 (zr (k := 47) (t2 := 100) hG ha rfl) (by decide)), (zFr_g hF_s2 (zr (k := 47) (t2 := 100) hG ha rfl) (by decide))]) dX12_back_44 ?_
              refine j_iast hx hG (zr (k := 30) (t2 := 87) hG ha rfl) (by decide) rfl (zlen hG (zr (k := 30) (t2 := 87) hG ha rfl) (n := 5) rfl rfl) (by omega) (by omega) (j := (v4).toNat) rfl dX12_back_45 ?_
              obtain ⟨s12, e_s12⟩ : ∃ z, z = zU s8 (gP G a 30) (v4).toNat ((s0 (gP G a 47) (v4).toNat)) := ⟨_, rfl⟩
              rw [← e_s12]
              have hS_s12 : zSK G s12 := by rw [e_s12]; exact zSK_A hS_s8 (zr (k := 30) (t2 := 87) hG ha rfl) rfl rfl rfl (by omega)
              refine j_iinc hx 1 [(1, .int (zI (v4 + 1))), (0, .ref a)] dX12_back_46 rfl (by omega) (by decide) rfl ?_
              refine j_goto hx 29 dX12_back_49 rfl ?_
              exact j_sub [1, 0] [(0, .ref a), (1, .int (zI (v4 + 1)))] rfl (ih_c29_7 (v4 + 1) s12 (by omega) (by omega) hS_s12 (zFr_u (zFr_t zFr_rf hF_s8 (by decide)) e_s12 (zr (k := 30) (t2 := 87) hG ha rfl) (by decide)))
        exact j_sub [1, 0] [(0, .ref a), (1, .int (zI 0))] rfl (c29_7 (2147483648 * 4) 0 s2 (by omega) (by omega) hS_s2 zFr_rf)
      · skip
        refine j_aload_n hx 0 dX12_back_9 rfl ?_
        refine g13_27 hx hG ha kf_RX12_56 dX12_back_10 ?_
        refine j_iload_n hx 1 dX12_back_13 rfl ?_
        refine j_aload_n hx 0 dX12_back_14 rfl ?_
        refine g13_46 hx hG ha kf_RX12_102 dX12_back_15 ?_
        refine j_iload_n hx 1 dX12_back_18 rfl ?_
        have f9 := zah (j := (v1).toNat) hS0 (zr (k := 46) (t2 := 99) hG ha rfl) (fun k => ⟨_, rfl, (axS_h _).1, (axS_h _).2.1⟩) (zlen hG (zr (k := 46) (t2 := 99) hG ha rfl) (n := 515) rfl rfl) (show 0 ≤ v1 by omega) (by omega) rfl
        refine j_iald hx hG (zr (k := 46) (t2 := 99) hG ha rfl) (by decide) rfl (zlen hG (zr (k := 46) (t2 := 99) hG ha rfl) (n := 515) rfl rfl) (by omega) (by omega) (j := (v1).toNat) rfl (v := (s0 (gP G a 46) (v1).toNat)) (by rw [(zFr_g hF_s2 (zr (k := 46) (t2 := 99) hG ha rfl) (by decide))]) dX12_back_19 ?_
        refine j_iast hx hG (zr (k := 27) (t2 := 84) hG ha rfl) (by decide) rfl (zlen hG (zr (k := 27) (t2 := 84) hG ha rfl) (n := 515) rfl rfl) (by omega) (by omega) (j := (v1).toNat) rfl dX12_back_20 ?_
        obtain ⟨s13, e_s13⟩ : ∃ z, z = zU s2 (gP G a 27) (v1).toNat ((s0 (gP G a 46) (v1).toNat)) := ⟨_, rfl⟩
        rw [← e_s13]
        have hS_s13 : zSK G s13 := by rw [e_s13]; exact zSK_cq hS_s2 hS0 (zr (k := 27) (t2 := 84) hG ha rfl) (zr (k := 46) (t2 := 99) hG ha rfl) (fun _ => rfl) rfl (j2 := (v1).toNat) (by rfl) (by have := (zlen hG (zr (k := 46) (t2 := 99) hG ha rfl) (n := 515) rfl rfl); omega) rfl
        refine j_iinc hx 1 [(1, .int (zI (v1 + 1))), (0, .ref a)] dX12_back_21 rfl (by omega) (by decide) rfl ?_
        refine j_goto hx 2 dX12_back_24 rfl ?_
        exact j_sub [1, 0] [(0, .ref a), (1, .int (zI (v1 + 1)))] rfl (ih_c2_1 (v1 + 1) s13 (by omega) (by omega) hS_s13 (zFr_u (zFr_t zFr_rf hF_s2 (by decide)) e_s13 (zr (k := 27) (t2 := 84) hG ha rfl) (by decide)) (zEq_s hE1 e_s13 (by omega) rfl))
  exact j_sub [1, 0] [(0, .ref a), (1, .int (zI 0))] rfl (c2_1 (2147483648 * 4) 0 s0 (by omega) (by omega) hS0 zFr_rf (zEq_0 (by omega)))

theorem lk_RX12_444 : LkV RX12 444 RX12 yX12_keeps cX12_keeps 2 none 0 := ⟨km_RX12_444, ki_yX12_keeps, ks_RX12_yX12_keeps, kn_RX12, kc_yX12_keeps, rfl, by decide +kernel, by decide +kernel, by decide +kernel⟩
theorem lk_RX12_447 : LkV RX12 447 RX12 yX12_findEnds cX12_findEnds 2 none 0 := ⟨km_RX12_447, ki_yX12_findEnds, ks_RX12_yX12_findEnds, kn_RX12, kc_yX12_findEnds, rfl, by decide +kernel, by decide +kernel, by decide +kernel⟩
theorem lk_RX12_450 : LkV RX12 450 RX12 yX12_back cX12_back 2 none 0 := ⟨km_RX12_450, ki_yX12_back, ks_RX12_yX12_back, kn_RX12, kc_yX12_back, rfl, by decide +kernel, by decide +kernel, by decide +kernel⟩
set_option maxHeartbeats 1200000 in
set_option maxRecDepth 20000 in
theorem c_X12_ends {E : zE} {l : Launch} (hst : l.stackTraces = false) (a : Nat) (x1 : Int) : Con E l yX12_ends cX12_ends 2 (some .int) { frames := 7, cells := 0, slots := 0, locals := 162 } (fun G s vs => vs = [.ref a, .int (zI x1)] ∧ zGK G ∧ zSK G s ∧ (gT G a = 13) ∧ ((-2147483648) ≤ x1 ∧ x1 ≤ 2147483647) ∧ (zRva (s (gP G a 34)) (s (gP G a 35)) (s (gP G a 37))) ∧ (zc (s (gP G a 27)) ≤ 60) ∧ (s (gP G a 27) 488 ≤ 520000)) (fun G s _ => pI (fun r G2 s2 => G2 = G ∧ zSK G s2 ∧ zFr [13, 71, 84, 87, 95, 98, 99, 100, 101, 102, 103] G s s2 ∧ ((-2147483648) ≤ r ∧ r ≤ 2147483647) ∧ zc (s2 (gP G a 27)) = zc (s (gP G a 27)) ∧ s2 (gP G a 27) 488 = s (gP G a 27) 488 ∧ s2 a 3 = s a 3 ∧ s2 a 4 = s a 4 ∧ s2 a 5 = s a 5 ∧ s2 a 7 = s a 7 ∧ s2 a 21 = s a 21 ∧ s2 a 22 = s a 22 ∧ s2 a 23 = s a 23 ∧ s2 a 24 = s a 24 ∧ s2 a 38 = s a 38)) := by
  refine Con.mk hst (by decide) (fun G s vs h => by rw [h.1]; exact Nat.le_of_ble_eq_true rfl) ?_
  rintro X G s0 vs ⟨rfl, hG, hS0, ha, hx1, e0, e1, e2⟩ rfl hx hq
  show JJ X E 2 G s0 0 0 [(0, .ref a), (1, .int (zI x1))] 0 []
  refine j_aload_n hx 0 dX12_ends_0 rfl ?_
  refine j_iconst hx dX12_ends_1 ?_
  refine p13_0 hx hG ha kf_RX12_3 dX12_ends_2 ?_
  obtain ⟨s1, e_s1⟩ : ∃ z, z = zU s0 a 0 0 := ⟨_, rfl⟩
  rw [← e_s1]
  have hS_s1 : zSK G s1 := by rw [e_s1]; exact zSK_F hS0 ha rfl rfl rfl (by omega)
  refine j_aload_n hx 0 dX12_ends_5 rfl ?_
  refine j_iload_n hx 1 dX12_ends_6 rfl ?_
  refine j_iconst hx dX12_ends_7 ?_
  refine j_iconst hx dX12_ends_8 ?_
  refine j_callS hx (c_X12_within hst x1 0 3) lk_RX12_314 [.int (zI x1), .int (zI 0), .int (zI 3)] ⟨rfl, hG, hS_s1, (by omega), (by omega), (by omega)⟩ rfl rfl ⟨by decide, by decide⟩ ⟨by decide, by decide⟩ (k2 := 0) (n2 := 0) rfl rfl (Nat.le_of_ble_eq_true rfl) dX12_ends_9 (kIP (fun v1 q2 => ?_))
  refine j_iconst hx dX12_ends_12 ?_
  refine j_iconst hx dX12_ends_13 ?_
  rcases (show v1 = 0 ∨ v1 = 1 by omega) with rfl | rfl
  · skip
    have g4 : s1 a 0 = 0 := (by rw [e_s1, zU_eq])
    have g5 : s1 a 3 = s0 a 3 := (by rw [e_s1, zU_at (Or.inr (by decide))])
    have f6 := zf hS0 ha (k := 3) rfl
    have g7 : s1 a 4 = s0 a 4 := (by rw [e_s1, zU_at (Or.inr (by decide))])
    have f8 := zf hS0 ha (k := 4) rfl
    have g9 : s1 a 5 = s0 a 5 := (by rw [e_s1, zU_at (Or.inr (by decide))])
    have f10 := zf hS0 ha (k := 5) rfl
    have g11 : s1 a 7 = s0 a 7 := (by rw [e_s1, zU_at (Or.inr (by decide))])
    have f12 := zf hS0 ha (k := 7) rfl
    have g13 : s1 a 21 = s0 a 21 := (by rw [e_s1, zU_at (Or.inr (by decide))])
    have f14 := zf hS0 ha (k := 21) rfl
    have g15 : s1 a 22 = s0 a 22 := (by rw [e_s1, zU_at (Or.inr (by decide))])
    have f16 := zf hS0 ha (k := 22) rfl
    have g17 : s1 a 23 = s0 a 23 := (by rw [e_s1, zU_at (Or.inr (by decide))])
    have f18 := zf hS0 ha (k := 23) rfl
    have g19 : s1 a 24 = s0 a 24 := (by rw [e_s1, zU_at (Or.inr (by decide))])
    have f20 := zf hS0 ha (k := 24) rfl
    have g21 : s1 a 38 = s0 a 38 := (by rw [e_s1, zU_at (Or.inr (by decide))])
    have f22 := zf hS0 ha (k := 38) rfl
    have g23 : s1 a 51 = s0 a 51 := (by rw [e_s1, zU_at (Or.inr (by decide))])
    have f24 := zf hS0 ha (k := 51) rfl
    have g25 : s1 a 52 = s0 a 52 := (by rw [e_s1, zU_at (Or.inr (by decide))])
    have f26 := zf hS0 ha (k := 52) rfl
    refine j_callV hx hG (c_X12_may_f hst a 0 1 1) lk_RX12_240 ha (by decide) rfl rfl rfl rfl [.int (zI 0), .int (zI 1), .int (zI 1)] ⟨rfl, hG, hS_s1, ha, (by omega), (by omega), (by omega), (((by rw [e_s1, zU_eq]) : s1 a 0 = 0).trans (by omega))⟩ rfl rfl ⟨by decide, by decide⟩ ⟨by decide, by decide⟩ (k2 := 0) (n2 := 0) rfl rfl (Nat.le_of_ble_eq_true rfl) dX12_ends_14 (kIM (fun v27 s2 hS_s2 hF_s2 q28 => ?_))
    refine j_if_ne hx 22 dX12_ends_17 rfl (by omega) (fun h29 => absurd h29 (by omega)) (fun h29 => ?_)
    refine j_iconst hx dX12_ends_20 ?_
    have g30 : zc (s2 (gP G a 27)) = zc (s0 (gP G a 27)) := by rw [hF_s2 (gP G a 27) (by rw [(zr (k := 27) (t2 := 84) hG ha rfl)]; decide), e_s1, zU_ne (zne ha (zr (k := 27) (t2 := 84) hG ha rfl) (by decide))]
    have g31 : s2 (gP G a 27) 488 = s0 (gP G a 27) 488 := (by rw [(zFr_g hF_s2 (zr (k := 27) (t2 := 84) hG ha rfl) (by decide)), e_s1, zU_at (Or.inl (zne ha (zr (k := 27) (t2 := 84) hG ha rfl) (by decide)))])
    have f32 := zf hS_s2 ha (k := 3) rfl
    have f33 := zf hS_s2 ha (k := 4) rfl
    have f34 := zf hS_s2 ha (k := 5) rfl
    have f35 := zf hS_s2 ha (k := 7) rfl
    have f36 := zf hS_s2 ha (k := 21) rfl
    have f37 := zf hS_s2 ha (k := 22) rfl
    have f38 := zf hS_s2 ha (k := 23) rfl
    have f39 := zf hS_s2 ha (k := 24) rfl
    have f40 := zf hS_s2 ha (k := 38) rfl
    exact j_iret hx hq rfl (by decide) (by decide) dX12_ends_21 ⟨0, rfl, rfl, hS_s2, (zFr_t (zFr_u zFr_rf e_s1 ha (by decide)) hF_s2 (by decide)), ⟨(by omega), by omega, by omega, by omega, by omega, by omega, by omega, by omega, by omega, by omega, by omega, by omega⟩⟩
  · skip
    have g41 : s1 a 0 = 0 := (by rw [e_s1, zU_eq])
    refine j_callV hx hG (c_X12_may_t hst a 1 1 1) lk_RX12_240 ha (by decide) rfl rfl rfl rfl [.int (zI 1), .int (zI 1), .int (zI 1)] ⟨rfl, hG, hS_s1, ha, (by omega), (by omega), (by omega), (((by rw [e_s1, zU_eq]) : s1 a 0 = 0).trans (by omega))⟩ rfl rfl ⟨by decide, by decide⟩ ⟨by decide, by decide⟩ (k2 := 0) (n2 := 0) rfl rfl (Nat.le_of_ble_eq_true rfl) dX12_ends_14 (kIP (fun v42 q43 => ?_))
    refine j_if_ne hx 22 dX12_ends_17 rfl (by omega) (fun h44 => ?_) (fun h44 => absurd h44 (by omega))
    refine j_aload_n hx 0 dX12_ends_22 rfl ?_
    have g45 : zc (s1 (gP G a 27)) = zc (s0 (gP G a 27)) := by rw [e_s1, zU_ne (zne ha (zr (k := 27) (t2 := 84) hG ha rfl) (by decide))]
    have g46 : s1 (gP G a 27) 488 = s0 (gP G a 27) 488 := (by rw [e_s1, zU_at (Or.inl (zne ha (zr (k := 27) (t2 := 84) hG ha rfl) (by decide)))])
    refine j_callV hx hG (c_X12_keeps hst a) lk_RX12_444 ha (by decide) rfl rfl rfl rfl [] ⟨rfl, hG, hS_s1, ha⟩ rfl rfl ⟨by decide, by decide⟩ ⟨by decide, by decide⟩ (k2 := 0) (n2 := 0) rfl rfl (Nat.le_of_ble_eq_true rfl) dX12_ends_23 (kVM (fun s3 hS_s3 hF_s3 q48 => ?_))
    refine j_aload_n hx 0 dX12_ends_26 rfl ?_
    have g49 : zc (s3 (gP G a 27)) = zc (s0 (gP G a 27)) := by rw [hF_s3 (gP G a 27) (by rw [(zr (k := 27) (t2 := 84) hG ha rfl)]; decide), e_s1, zU_ne (zne ha (zr (k := 27) (t2 := 84) hG ha rfl) (by decide))]
    have g50 : s3 (gP G a 27) 488 = s0 (gP G a 27) 488 := (by rw [(zFr_g hF_s3 (zr (k := 27) (t2 := 84) hG ha rfl) (by decide)), e_s1, zU_at (Or.inl (zne ha (zr (k := 27) (t2 := 84) hG ha rfl) (by decide)))])
    have g51 : s3 a 0 = 0 := (by rw [(zFr_g hF_s3 ha (by decide)), e_s1, zU_eq])
    have g52 : s3 a 3 = s0 a 3 := (by rw [(zFr_g hF_s3 ha (by decide)), e_s1, zU_at (Or.inr (by decide))])
    have f53 := zf hS0 ha (k := 3) rfl
    have g54 : s3 a 4 = s0 a 4 := (by rw [(zFr_g hF_s3 ha (by decide)), e_s1, zU_at (Or.inr (by decide))])
    have f55 := zf hS0 ha (k := 4) rfl
    have g56 : s3 a 5 = s0 a 5 := (by rw [(zFr_g hF_s3 ha (by decide)), e_s1, zU_at (Or.inr (by decide))])
    have f57 := zf hS0 ha (k := 5) rfl
    have g58 : s3 a 7 = s0 a 7 := (by rw [(zFr_g hF_s3 ha (by decide)), e_s1, zU_at (Or.inr (by decide))])
    have f59 := zf hS0 ha (k := 7) rfl
    have g60 : s3 a 21 = s0 a 21 := (by rw [(zFr_g hF_s3 ha (by decide)), e_s1, zU_at (Or.inr (by decide))])
    have f61 := zf hS0 ha (k := 21) rfl
    have g62 : s3 a 22 = s0 a 22 := (by rw [(zFr_g hF_s3 ha (by decide)), e_s1, zU_at (Or.inr (by decide))])
    have f63 := zf hS0 ha (k := 22) rfl
    have g64 : s3 a 23 = s0 a 23 := (by rw [(zFr_g hF_s3 ha (by decide)), e_s1, zU_at (Or.inr (by decide))])
    have f65 := zf hS0 ha (k := 23) rfl
    have g66 : s3 a 24 = s0 a 24 := (by rw [(zFr_g hF_s3 ha (by decide)), e_s1, zU_at (Or.inr (by decide))])
    have f67 := zf hS0 ha (k := 24) rfl
    have g68 : s3 a 38 = s0 a 38 := (by rw [(zFr_g hF_s3 ha (by decide)), e_s1, zU_at (Or.inr (by decide))])
    have f69 := zf hS0 ha (k := 38) rfl
    refine j_callV hx hG (c_X12_findEnds hst a) lk_RX12_447 ha (by decide) rfl rfl rfl rfl [] ⟨rfl, hG, hS_s3, ha, (by omega), ((by have q1 : s3 (gP G a 34) = s0 (gP G a 34) := (by rw [hF_s3 (gP G a 34) (by rw [(zr (k := 34) (t2 := 91) hG ha rfl)]; decide), e_s1, zU_ne (zne ha (zr (k := 34) (t2 := 91) hG ha rfl) (by decide))]); have q2 : s3 (gP G a 35) = s0 (gP G a 35) := (by rw [hF_s3 (gP G a 35) (by rw [(zr (k := 35) (t2 := 92) hG ha rfl)]; decide), e_s1, zU_ne (zne ha (zr (k := 35) (t2 := 92) hG ha rfl) (by decide))]); have q3 : s3 (gP G a 37) = s0 (gP G a 37) := (by rw [hF_s3 (gP G a 37) (by rw [(zr (k := 37) (t2 := 94) hG ha rfl)]; decide), e_s1, zU_ne (zne ha (zr (k := 37) (t2 := 94) hG ha rfl) (by decide))]); rw [q1, q2, q3]; exact e0)), (by omega)⟩ rfl rfl ⟨by decide, by decide⟩ ⟨by decide, by decide⟩ (k2 := 0) (n2 := 0) rfl rfl (Nat.le_of_ble_eq_true rfl) dX12_ends_27 (kVM (fun s4 hS_s4 hF_s4 q71 => ?_))
    refine j_aload_n hx 0 dX12_ends_30 rfl ?_
    have g72 : zc (s4 (gP G a 46)) = zc (s3 (gP G a 46)) := by rw [hF_s4 (gP G a 46) (by rw [(zr (k := 46) (t2 := 99) hG ha rfl)]; decide)]
    have g73 : s4 (gP G a 46) 488 = s3 (gP G a 46) 488 := (by rw [(zFr_g hF_s4 (zr (k := 46) (t2 := 99) hG ha rfl) (by decide))])
    refine j_callV hx hG (c_X12_back hst a) lk_RX12_450 ha (by decide) rfl rfl rfl rfl [] ⟨rfl, hG, hS_s4, ha⟩ rfl rfl ⟨by decide, by decide⟩ ⟨by decide, by decide⟩ (k2 := 0) (n2 := 0) rfl rfl (Nat.le_of_ble_eq_true rfl) dX12_ends_31 (kVM (fun s5 hS_s5 hF_s5 q75 => ?_))
    refine j_iload_n hx 1 dX12_ends_34 rfl ?_
    refine j_if_ne hx 45 dX12_ends_35 rfl (by omega) (fun h76 => ?_) (fun h76 => ?_)
    · skip
      refine j_iload_n hx 1 dX12_ends_45 rfl ?_
      refine j_iconst hx dX12_ends_46 ?_
      refine j_icmp_ne hx 57 dX12_ends_47 rfl (by omega) ⟨by decide, by decide⟩ (fun h77 => ?_) (fun h77 => ?_)
      · skip
        refine j_iload_n hx 1 dX12_ends_57 rfl ?_
        refine j_iconst hx dX12_ends_58 ?_
        refine j_icmp_ne hx 69 dX12_ends_59 rfl (by omega) ⟨by decide, by decide⟩ (fun h78 => ?_) (fun h78 => ?_)
        · skip
          refine j_aload_n hx 0 dX12_ends_69 rfl ?_
          have f79 := zf hS_s4 ha (k := 53) rfl
          refine g13_53 hx hG ha kf_RX12_426 (v := (s4 a 53)) (by rw [(zFr_g hF_s5 ha (by decide))]) dX12_ends_70 ?_
          have g80 : s5 a 3 = s4 a 3 := (by rw [(zFr_g hF_s5 ha (by decide))])
          have f81 := zf hS_s4 ha (k := 3) rfl
          have g82 : s5 a 4 = s4 a 4 := (by rw [(zFr_g hF_s5 ha (by decide))])
          have f83 := zf hS_s4 ha (k := 4) rfl
          have g84 : s5 a 5 = s4 a 5 := (by rw [(zFr_g hF_s5 ha (by decide))])
          have f85 := zf hS_s4 ha (k := 5) rfl
          have g86 : s5 a 7 = s4 a 7 := (by rw [(zFr_g hF_s5 ha (by decide))])
          have f87 := zf hS_s4 ha (k := 7) rfl
          have g88 : s5 a 21 = s4 a 21 := (by rw [(zFr_g hF_s5 ha (by decide))])
          have f89 := zf hS_s4 ha (k := 21) rfl
          have g90 : s5 a 22 = s4 a 22 := (by rw [(zFr_g hF_s5 ha (by decide))])
          have f91 := zf hS_s4 ha (k := 22) rfl
          have g92 : s5 a 23 = s4 a 23 := (by rw [(zFr_g hF_s5 ha (by decide))])
          have f93 := zf hS_s4 ha (k := 23) rfl
          have g94 : s5 a 24 = s4 a 24 := (by rw [(zFr_g hF_s5 ha (by decide))])
          have f95 := zf hS_s4 ha (k := 24) rfl
          have g96 : s5 a 38 = s4 a 38 := (by rw [(zFr_g hF_s5 ha (by decide))])
          have f97 := zf hS_s4 ha (k := 38) rfl
          exact j_iret hx hq rfl (by decide) (by decide) dX12_ends_73 ⟨(s4 a 53), rfl, rfl, hS_s5, (zFr_t (zFr_t (zFr_t (zFr_u zFr_rf e_s1 ha (by decide)) hF_s3 (by decide)) hF_s4 (by decide)) hF_s5 (by decide)), ⟨(by omega), by omega, by omega, by omega, by omega, by omega, by omega, by omega, by omega, by omega, by omega, by omega⟩⟩
        · skip
          refine j_aload_n hx 0 dX12_ends_62 rfl ?_
          have f98 := zf hS_s4 ha (k := 51) rfl
          refine g13_51 hx hG ha kf_RX12_432 (v := (s4 a 51)) (by rw [(zFr_g hF_s5 ha (by decide))]) dX12_ends_63 ?_
          refine j_goto hx 73 dX12_ends_66 rfl ?_
          have g99 : s5 a 3 = s4 a 3 := (by rw [(zFr_g hF_s5 ha (by decide))])
          have f100 := zf hS_s4 ha (k := 3) rfl
          have g101 : s5 a 4 = s4 a 4 := (by rw [(zFr_g hF_s5 ha (by decide))])
          have f102 := zf hS_s4 ha (k := 4) rfl
          have g103 : s5 a 5 = s4 a 5 := (by rw [(zFr_g hF_s5 ha (by decide))])
          have f104 := zf hS_s4 ha (k := 5) rfl
          have g105 : s5 a 7 = s4 a 7 := (by rw [(zFr_g hF_s5 ha (by decide))])
          have f106 := zf hS_s4 ha (k := 7) rfl
          have g107 : s5 a 21 = s4 a 21 := (by rw [(zFr_g hF_s5 ha (by decide))])
          have f108 := zf hS_s4 ha (k := 21) rfl
          have g109 : s5 a 22 = s4 a 22 := (by rw [(zFr_g hF_s5 ha (by decide))])
          have f110 := zf hS_s4 ha (k := 22) rfl
          have g111 : s5 a 23 = s4 a 23 := (by rw [(zFr_g hF_s5 ha (by decide))])
          have f112 := zf hS_s4 ha (k := 23) rfl
          have g113 : s5 a 24 = s4 a 24 := (by rw [(zFr_g hF_s5 ha (by decide))])
          have f114 := zf hS_s4 ha (k := 24) rfl
          have g115 : s5 a 38 = s4 a 38 := (by rw [(zFr_g hF_s5 ha (by decide))])
          have f116 := zf hS_s4 ha (k := 38) rfl
          exact j_iret hx hq rfl (by decide) (by decide) dX12_ends_73 ⟨(s4 a 51), rfl, rfl, hS_s5, (zFr_t (zFr_t (zFr_t (zFr_u zFr_rf e_s1 ha (by decide)) hF_s3 (by decide)) hF_s4 (by decide)) hF_s5 (by decide)), ⟨(by omega), by omega, by omega, by omega, by omega, by omega, by omega, by omega, by omega, by omega, by omega, by omega⟩⟩
      · skip
        refine j_aload_n hx 0 dX12_ends_50 rfl ?_
        have f117 := zf hS_s4 ha (k := 52) rfl
        refine g13_52 hx hG ha kf_RX12_429 (v := (s4 a 52)) (by rw [(zFr_g hF_s5 ha (by decide))]) dX12_ends_51 ?_
        refine j_goto hx 73 dX12_ends_54 rfl ?_
        have g118 : s5 a 3 = s4 a 3 := (by rw [(zFr_g hF_s5 ha (by decide))])
        have f119 := zf hS_s4 ha (k := 3) rfl
        have g120 : s5 a 4 = s4 a 4 := (by rw [(zFr_g hF_s5 ha (by decide))])
        have f121 := zf hS_s4 ha (k := 4) rfl
        have g122 : s5 a 5 = s4 a 5 := (by rw [(zFr_g hF_s5 ha (by decide))])
        have f123 := zf hS_s4 ha (k := 5) rfl
        have g124 : s5 a 7 = s4 a 7 := (by rw [(zFr_g hF_s5 ha (by decide))])
        have f125 := zf hS_s4 ha (k := 7) rfl
        have g126 : s5 a 21 = s4 a 21 := (by rw [(zFr_g hF_s5 ha (by decide))])
        have f127 := zf hS_s4 ha (k := 21) rfl
        have g128 : s5 a 22 = s4 a 22 := (by rw [(zFr_g hF_s5 ha (by decide))])
        have f129 := zf hS_s4 ha (k := 22) rfl
        have g130 : s5 a 23 = s4 a 23 := (by rw [(zFr_g hF_s5 ha (by decide))])
        have f131 := zf hS_s4 ha (k := 23) rfl
        have g132 : s5 a 24 = s4 a 24 := (by rw [(zFr_g hF_s5 ha (by decide))])
        have f133 := zf hS_s4 ha (k := 24) rfl
        have g134 : s5 a 38 = s4 a 38 := (by rw [(zFr_g hF_s5 ha (by decide))])
        have f135 := zf hS_s4 ha (k := 38) rfl
        exact j_iret hx hq rfl (by decide) (by decide) dX12_ends_73 ⟨(s4 a 52), rfl, rfl, hS_s5, (zFr_t (zFr_t (zFr_t (zFr_u zFr_rf e_s1 ha (by decide)) hF_s3 (by decide)) hF_s4 (by decide)) hF_s5 (by decide)), ⟨(by omega), by omega, by omega, by omega, by omega, by omega, by omega, by omega, by omega, by omega, by omega, by omega⟩⟩
    · skip
      refine j_aload_n hx 0 dX12_ends_38 rfl ?_
      have f136 := zf hS_s4 ha (k := 54) rfl
      refine g13_54 hx hG ha kf_RX12_441 (v := (s4 a 54)) (by rw [(zFr_g hF_s5 ha (by decide))]) dX12_ends_39 ?_
      refine j_goto hx 73 dX12_ends_42 rfl ?_
      have g137 : s5 a 3 = s4 a 3 := (by rw [(zFr_g hF_s5 ha (by decide))])
      have f138 := zf hS_s4 ha (k := 3) rfl
      have g139 : s5 a 4 = s4 a 4 := (by rw [(zFr_g hF_s5 ha (by decide))])
      have f140 := zf hS_s4 ha (k := 4) rfl
      have g141 : s5 a 5 = s4 a 5 := (by rw [(zFr_g hF_s5 ha (by decide))])
      have f142 := zf hS_s4 ha (k := 5) rfl
      have g143 : s5 a 7 = s4 a 7 := (by rw [(zFr_g hF_s5 ha (by decide))])
      have f144 := zf hS_s4 ha (k := 7) rfl
      have g145 : s5 a 21 = s4 a 21 := (by rw [(zFr_g hF_s5 ha (by decide))])
      have f146 := zf hS_s4 ha (k := 21) rfl
      have g147 : s5 a 22 = s4 a 22 := (by rw [(zFr_g hF_s5 ha (by decide))])
      have f148 := zf hS_s4 ha (k := 22) rfl
      have g149 : s5 a 23 = s4 a 23 := (by rw [(zFr_g hF_s5 ha (by decide))])
      have f150 := zf hS_s4 ha (k := 23) rfl
      have g151 : s5 a 24 = s4 a 24 := (by rw [(zFr_g hF_s5 ha (by decide))])
      have f152 := zf hS_s4 ha (k := 24) rfl
      have g153 : s5 a 38 = s4 a 38 := (by rw [(zFr_g hF_s5 ha (by decide))])
      have f154 := zf hS_s4 ha (k := 38) rfl
      exact j_iret hx hq rfl (by decide) (by decide) dX12_ends_73 ⟨(s4 a 54), rfl, rfl, hS_s5, (zFr_t (zFr_t (zFr_t (zFr_u zFr_rf e_s1 ha (by decide)) hF_s3 (by decide)) hF_s4 (by decide)) hF_s5 (by decide)), ⟨(by omega), by omega, by omega, by omega, by omega, by omega, by omega, by omega, by omega, by omega, by omega, by omega⟩⟩

set_option maxHeartbeats 1200000 in
set_option maxRecDepth 20000 in
theorem c_X12_turnFor {E : zE} {l : Launch} (hst : l.stackTraces = false) (a : Nat) (x1 : Int) : Con E l yX12_turnFor cX12_turnFor 4 (some .boolean) { frames := 4, cells := 0, slots := 0, locals := 95 } (fun G s vs => vs = [.ref a, .int (zI x1)] ∧ zGK G ∧ zSK G s ∧ (gT G a = 13) ∧ ((-1) ≤ x1 ∧ x1 ≤ 2) ∧ (zc (s (gP G a 27)) ≤ 60) ∧ (s (gP G a 27) 488 ≤ 599999)) (fun G s _ => pI (fun r G2 s2 => G2 = G ∧ zSK G s2 ∧ zFr [13, 84] G s s2 ∧ (0 ≤ r ∧ r ≤ 1) ∧ zc (s2 (gP G a 27)) = zc (s (gP G a 27)) ∧ ((r = 0 → s2 (gP G a 27) 488 = s (gP G a 27) 488) ∧ (r = 1 → s2 (gP G a 27) 488 = s (gP G a 27) 488 + 1)) ∧ s2 a 0 = s a 0 ∧ s2 a 3 = s a 3 ∧ s2 a 4 = s a 4 ∧ s2 a 5 = s a 5 ∧ s2 a 7 = s a 7 ∧ s2 a 21 = s a 21 ∧ s2 a 22 = s a 22 ∧ s2 a 23 = s a 23 ∧ s2 a 24 = s a 24 ∧ s2 a 38 = s a 38 ∧ s2 a 51 = s a 51 ∧ s2 a 52 = s a 52)) := by
  refine Con.mk hst (by decide) (fun G s vs h => by rw [h.1]; exact Nat.le_of_ble_eq_true rfl) ?_
  rintro X G s0 vs ⟨rfl, hG, hS0, ha, hx1, e0, e1⟩ rfl hx hq
  show JJ X E 4 G s0 0 0 [(0, .ref a), (1, .int (zI x1))] 0 []
  refine j_aload_n hx 0 dX12_turnFor_0 rfl ?_
  refine j_callV hx hG (c_X12_whose hst a) lk_RX12_336 ha (by decide) rfl rfl rfl rfl [] ⟨rfl, hG, hS0, ha⟩ rfl rfl ⟨by decide, by decide⟩ ⟨by decide, by decide⟩ (k2 := 0) (n2 := 0) rfl rfl (Nat.le_of_ble_eq_true rfl) dX12_turnFor_1 (kIP (fun v1 q2 => ?_))
  refine j_istore_n hx [(2, .int (zI v1)), (0, .ref a), (1, .int (zI x1))] dX12_turnFor_4 (by decide) rfl ?_
  refine j_iload_n hx 0 dX12_turnFor_5 rfl ?_
  refine j_iconst hx dX12_turnFor_6 ?_
  refine j_icmp_ne hx 12 dX12_turnFor_7 rfl (by omega) ⟨by decide, by decide⟩ (fun h3 => ?_) (fun h3 => ?_)
  · skip
    refine j_aload_n hx 1 dX12_turnFor_12 rfl ?_
    refine j_iload_n hx 0 dX12_turnFor_13 rfl ?_
    refine j_callV hx hG (c_X12_turnsOver hst a v1) lk_RX12_397 ha (by decide) rfl rfl rfl rfl [.int (zI v1)] ⟨rfl, hG, hS0, ha, (by omega), (by omega)⟩ rfl rfl ⟨by decide, by decide⟩ ⟨by decide, by decide⟩ (k2 := 0) (n2 := 0) rfl rfl (Nat.le_of_ble_eq_true rfl) dX12_turnFor_14 (kVM (fun s1 hS_s1 hF_s1 q5 => ?_))
    refine j_aload_n hx 1 dX12_turnFor_17 rfl ?_
    refine j_iload_n hx 0 dX12_turnFor_18 rfl ?_
    have g6 : s1 a 0 = s0 a 0 := (by rw [(zFr_g hF_s1 ha (by decide))])
    have f7 := zf hS0 ha (k := 0) rfl
    have g8 : s1 a 3 = s0 a 3 := (by rw [(zFr_g hF_s1 ha (by decide))])
    have f9 := zf hS0 ha (k := 3) rfl
    have g10 : s1 a 4 = s0 a 4 := (by rw [(zFr_g hF_s1 ha (by decide))])
    have f11 := zf hS0 ha (k := 4) rfl
    have g12 : s1 a 5 = s0 a 5 := (by rw [(zFr_g hF_s1 ha (by decide))])
    have f13 := zf hS0 ha (k := 5) rfl
    have g14 : s1 a 7 = s0 a 7 := (by rw [(zFr_g hF_s1 ha (by decide))])
    have f15 := zf hS0 ha (k := 7) rfl
    have g16 : s1 a 21 = s0 a 21 := (by rw [(zFr_g hF_s1 ha (by decide))])
    have f17 := zf hS0 ha (k := 21) rfl
    have g18 : s1 a 22 = s0 a 22 := (by rw [(zFr_g hF_s1 ha (by decide))])
    have f19 := zf hS0 ha (k := 22) rfl
    have g20 : s1 a 23 = s0 a 23 := (by rw [(zFr_g hF_s1 ha (by decide))])
    have f21 := zf hS0 ha (k := 23) rfl
    have g22 : s1 a 24 = s0 a 24 := (by rw [(zFr_g hF_s1 ha (by decide))])
    have f23 := zf hS0 ha (k := 24) rfl
    have g24 : s1 a 38 = s0 a 38 := (by rw [(zFr_g hF_s1 ha (by decide))])
    have f25 := zf hS0 ha (k := 38) rfl
    have g26 : s1 a 51 = s0 a 51 := (by rw [(zFr_g hF_s1 ha (by decide))])
    have f27 := zf hS0 ha (k := 51) rfl
    have g28 : s1 a 52 = s0 a 52 := (by rw [(zFr_g hF_s1 ha (by decide))])
    have f29 := zf hS0 ha (k := 52) rfl
    refine j_callV hx hG (c_X12_lays hst a v1) lk_RX12_403 ha (by decide) rfl rfl rfl rfl [.int (zI v1)] ⟨rfl, hG, hS_s1, ha, (by omega), (by omega), (by omega)⟩ rfl rfl ⟨by decide, by decide⟩ ⟨by decide, by decide⟩ (k2 := 0) (n2 := 0) rfl rfl (Nat.le_of_ble_eq_true rfl) dX12_turnFor_19 (kVM (fun s2 hS_s2 hF_s2 q31 => ?_))
    refine j_aload_n hx 1 dX12_turnFor_22 rfl ?_
    refine j_callV hx hG (c_X12_alikes hst a) lk_RX12_343 ha (by decide) rfl rfl rfl rfl [] ⟨rfl, hG, hS_s2, ha⟩ rfl rfl ⟨by decide, by decide⟩ ⟨by decide, by decide⟩ (k2 := 0) (n2 := 0) rfl rfl (Nat.le_of_ble_eq_true rfl) dX12_turnFor_23 (kIP (fun v32 q33 => ?_))
    refine j_istore_n hx [(3, .int (zI v32)), (2, .int (zI v1)), (0, .ref a), (1, .int (zI x1))] dX12_turnFor_26 (by decide) rfl ?_
    refine j_iload_n hx 0 dX12_turnFor_27 rfl ?_
    refine j_iconst hx dX12_turnFor_28 ?_
    have c52_3 : ∀ (s4 : zS), (zSK G s4) → (zFr [84] G s2 s4) → (zc (s4 (gP G a 27)) = zc (s2 (gP G a 27))) → (s4 (gP G a 27) 488 = s2 (gP G a 27) 488) → JJ X E 4 G s4 0 0 [(0, .ref a), (2, .int (zI v1))] 52 [] := by
      intro s4 hS_s4 hF_s4 fA7 fA8
      refine j_aload_n hx 0 dX12_turnFor_52 rfl ?_
      refine g13_27 hx hG ha kf_RX12_56 dX12_turnFor_53 ?_
      refine j_sipush hx dX12_turnFor_56 rfl ?_
      refine j_dup2 hx dX12_turnFor_59 rfl rfl ?_
      have f34 := zaQ (j := 488) hS_s4 (zr (k := 27) (t2 := 84) hG ha rfl) (congrArg some (axS_4 488 (by omega))) (zlen hG (zr (k := 27) (t2 := 84) hG ha rfl) (n := 515) rfl rfl) (show 0 ≤ 488 by omega) (by omega) rfl
      refine j_iald hx hG (zr (k := 27) (t2 := 84) hG ha rfl) (by decide) rfl (zlen hG (zr (k := 27) (t2 := 84) hG ha rfl) (n := 515) rfl rfl) (by omega) (by omega) (j := 488) rfl rfl dX12_turnFor_60 ?_
      refine j_iconst hx dX12_turnFor_61 ?_
      refine j_iadd hx (r := (s4 (gP G a 27) 488) + 1) dX12_turnFor_62 (by omega) ?_
      refine j_iast hx hG (zr (k := 27) (t2 := 84) hG ha rfl) (by decide) rfl (zlen hG (zr (k := 27) (t2 := 84) hG ha rfl) (n := 515) rfl rfl) (by omega) (by omega) (j := 488) rfl dX12_turnFor_63 ?_
      obtain ⟨s9, e_s9⟩ : ∃ z, z = zU s4 (gP G a 27) 488 ((s4 (gP G a 27) 488) + 1) := ⟨_, rfl⟩
      rw [← e_s9]
      have hS_s9 : zSK G s9 := by rw [e_s9]; exact zSK_a hS_s4 (zr (k := 27) (t2 := 84) hG ha rfl) rfl rfl (congrArg some (axS_4 488 (by omega))) (by omega)
      have z35 : zc (s9 (gP G a 27)) = zc (s4 (gP G a 27)) := by rw [e_s9]; exact zc_o (by omega)
      refine j_aload_n hx 0 dX12_turnFor_64 rfl ?_
      refine g13_27 hx hG ha kf_RX12_56 dX12_turnFor_65 ?_
      refine j_sipush hx dX12_turnFor_68 rfl ?_
      refine j_iload_n hx 1 dX12_turnFor_71 rfl ?_
      refine j_iast hx hG (zr (k := 27) (t2 := 84) hG ha rfl) (by decide) rfl (zlen hG (zr (k := 27) (t2 := 84) hG ha rfl) (n := 515) rfl rfl) (by omega) (by omega) (j := 487) rfl dX12_turnFor_72 ?_
      obtain ⟨s10, e_s10⟩ : ∃ z, z = zU s9 (gP G a 27) 487 v1 := ⟨_, rfl⟩
      rw [← e_s10]
      have hS_s10 : zSK G s10 := by rw [e_s10]; exact zSK_a hS_s9 (zr (k := 27) (t2 := 84) hG ha rfl) rfl rfl (congrArg some (axS_3 487 (by omega))) (by omega)
      have z36 : zc (s10 (gP G a 27)) = zc (s9 (gP G a 27)) := by rw [e_s10]; exact zc_o (by omega)
      refine j_iconst hx dX12_turnFor_73 ?_
      have g37 : s10 (gP G a 27) 488 = (s4 (gP G a 27) 488) + 1 := (by rw [e_s10, zU_at (Or.inr (by decide)), e_s9, zU_eq])
      have g38 : s10 a 0 = s2 a 0 := (by rw [e_s10, zU_at (Or.inl (zne (zr (k := 27) (t2 := 84) hG ha rfl) ha (by decide))), e_s9, zU_at (Or.inl (zne (zr (k := 27) (t2 := 84) hG ha rfl) ha (by decide))), (zFr_g hF_s4 ha (by decide))])
      have f39 := zf hS_s2 ha (k := 0) rfl
      have g40 : s10 a 3 = s2 a 3 := (by rw [e_s10, zU_at (Or.inl (zne (zr (k := 27) (t2 := 84) hG ha rfl) ha (by decide))), e_s9, zU_at (Or.inl (zne (zr (k := 27) (t2 := 84) hG ha rfl) ha (by decide))), (zFr_g hF_s4 ha (by decide))])
      have f41 := zf hS_s2 ha (k := 3) rfl
      have g42 : s10 a 4 = s2 a 4 := (by rw [e_s10, zU_at (Or.inl (zne (zr (k := 27) (t2 := 84) hG ha rfl) ha (by decide))), e_s9, zU_at (Or.inl (zne (zr (k := 27) (t2 := 84) hG ha rfl) ha (by decide))), (zFr_g hF_s4 ha (by decide))])
      have f43 := zf hS_s2 ha (k := 4) rfl
      have g44 : s10 a 5 = s2 a 5 := (by rw [e_s10, zU_at (Or.inl (zne (zr (k := 27) (t2 := 84) hG ha rfl) ha (by decide))), e_s9, zU_at (Or.inl (zne (zr (k := 27) (t2 := 84) hG ha rfl) ha (by decide))), (zFr_g hF_s4 ha (by decide))])
      have f45 := zf hS_s2 ha (k := 5) rfl
      have g46 : s10 a 7 = s2 a 7 := (by rw [e_s10, zU_at (Or.inl (zne (zr (k := 27) (t2 := 84) hG ha rfl) ha (by decide))), e_s9, zU_at (Or.inl (zne (zr (k := 27) (t2 := 84) hG ha rfl) ha (by decide))), (zFr_g hF_s4 ha (by decide))])
      have f47 := zf hS_s2 ha (k := 7) rfl
      have g48 : s10 a 21 = s2 a 21 := (by rw [e_s10, zU_at (Or.inl (zne (zr (k := 27) (t2 := 84) hG ha rfl) ha (by decide))), e_s9, zU_at (Or.inl (zne (zr (k := 27) (t2 := 84) hG ha rfl) ha (by decide))), (zFr_g hF_s4 ha (by decide))])
      have f49 := zf hS_s2 ha (k := 21) rfl
      have g50 : s10 a 22 = s2 a 22 := (by rw [e_s10, zU_at (Or.inl (zne (zr (k := 27) (t2 := 84) hG ha rfl) ha (by decide))), e_s9, zU_at (Or.inl (zne (zr (k := 27) (t2 := 84) hG ha rfl) ha (by decide))), (zFr_g hF_s4 ha (by decide))])
      have f51 := zf hS_s2 ha (k := 22) rfl
      have g52 : s10 a 23 = s2 a 23 := (by rw [e_s10, zU_at (Or.inl (zne (zr (k := 27) (t2 := 84) hG ha rfl) ha (by decide))), e_s9, zU_at (Or.inl (zne (zr (k := 27) (t2 := 84) hG ha rfl) ha (by decide))), (zFr_g hF_s4 ha (by decide))])
      have f53 := zf hS_s2 ha (k := 23) rfl
      have g54 : s10 a 24 = s2 a 24 := (by rw [e_s10, zU_at (Or.inl (zne (zr (k := 27) (t2 := 84) hG ha rfl) ha (by decide))), e_s9, zU_at (Or.inl (zne (zr (k := 27) (t2 := 84) hG ha rfl) ha (by decide))), (zFr_g hF_s4 ha (by decide))])
      have f55 := zf hS_s2 ha (k := 24) rfl
      have g56 : s10 a 38 = s2 a 38 := (by rw [e_s10, zU_at (Or.inl (zne (zr (k := 27) (t2 := 84) hG ha rfl) ha (by decide))), e_s9, zU_at (Or.inl (zne (zr (k := 27) (t2 := 84) hG ha rfl) ha (by decide))), (zFr_g hF_s4 ha (by decide))])
      have f57 := zf hS_s2 ha (k := 38) rfl
      have g58 : s10 a 51 = s2 a 51 := (by rw [e_s10, zU_at (Or.inl (zne (zr (k := 27) (t2 := 84) hG ha rfl) ha (by decide))), e_s9, zU_at (Or.inl (zne (zr (k := 27) (t2 := 84) hG ha rfl) ha (by decide))), (zFr_g hF_s4 ha (by decide))])
      have f59 := zf hS_s2 ha (k := 51) rfl
      have g60 : s10 a 52 = s2 a 52 := (by rw [e_s10, zU_at (Or.inl (zne (zr (k := 27) (t2 := 84) hG ha rfl) ha (by decide))), e_s9, zU_at (Or.inl (zne (zr (k := 27) (t2 := 84) hG ha rfl) ha (by decide))), (zFr_g hF_s4 ha (by decide))])
      have f61 := zf hS_s2 ha (k := 52) rfl
      exact j_zret hx hq rfl (by decide) (by decide) dX12_turnFor_74 (by omega) ⟨1, rfl, rfl, hS_s10, (zFr_u (zFr_u (zFr_t (zFr_t (zFr_t zFr_rf hF_s1 (by decide)) hF_s2 (by decide)) hF_s4 (by decide)) e_s9 (zr (k := 27) (t2 := 84) hG ha rfl) (by decide)) e_s10 (zr (k := 27) (t2 := 84) hG ha rfl) (by decide)), ⟨(by omega), by omega, by omega, by omega, by omega, by omega, by omega, by omega, by omega, by omega, by omega, by omega, by omega, by omega, by omega⟩⟩
    refine j_icmp_eq hx 52 dX12_turnFor_29 rfl (by omega) ⟨by decide, by decide⟩ (fun h62 => ?_) (fun h62 => ?_)
    · skip
      exact j_sub [2, 1] [(0, .ref a), (2, .int (zI v1))] rfl (c52_3 s2 hS_s2 zFr_rf (by omega) (by omega))
    · skip
      refine j_iload_n hx 3 dX12_turnFor_32 rfl ?_
      refine j_iconst hx dX12_turnFor_33 ?_
      refine j_icmp_eq hx 52 dX12_turnFor_34 rfl (by omega) ⟨by decide, by decide⟩ (fun h63 => ?_) (fun h63 => ?_)
      · skip
        exact j_sub [2, 1] [(0, .ref a), (2, .int (zI v1))] rfl (c52_3 s2 hS_s2 zFr_rf (by omega) (by omega))
      · skip
        refine j_aload_n hx 2 dX12_turnFor_37 rfl ?_
        refine j_iload_n hx 3 dX12_turnFor_38 rfl ?_
        refine j_callV hx hG (c_X12_isOut hst a x1) lk_RX12_325 ha (by decide) rfl rfl rfl rfl [.int (zI x1)] ⟨rfl, hG, hS_s2, ha, (by omega)⟩ rfl rfl ⟨by decide, by decide⟩ ⟨by decide, by decide⟩ (k2 := 0) (n2 := 0) rfl rfl (Nat.le_of_ble_eq_true rfl) dX12_turnFor_39 (kIP (fun v64 q65 => ?_))
        refine j_if_ne hx 52 dX12_turnFor_42 rfl (by omega) (fun h66 => ?_) (fun h66 => ?_)
        · skip
          exact j_sub [2, 1] [(0, .ref a), (2, .int (zI v1))] rfl (c52_3 s2 hS_s2 zFr_rf (by omega) (by omega))
        · skip
          refine j_aload_n hx 2 dX12_turnFor_45 rfl ?_
          refine j_iload_n hx 3 dX12_turnFor_46 rfl ?_
          refine j_iload_n hx 0 dX12_turnFor_47 rfl ?_
          refine j_callV hx hG (c_X12_wins hst a x1 v32) lk_RX12_394 ha (by decide) rfl rfl rfl rfl [.int (zI x1), .int (zI v32)] ⟨rfl, hG, hS_s2, ha, (by omega), (by omega), (by omega), (by omega)⟩ rfl rfl ⟨by decide, by decide⟩ ⟨by decide, by decide⟩ (k2 := 0) (n2 := 0) rfl rfl (Nat.le_of_ble_eq_true rfl) dX12_turnFor_48 (kIM (fun v67 s11 hS_s11 hF_s11 q68 => ?_))
          refine j_pop hx dX12_turnFor_51 rfl ?_
          exact j_sub [2, 1] [(0, .ref a), (2, .int (zI v1))] rfl (c52_3 s11 hS_s11 (zFr_t zFr_rf hF_s11 (by decide)) (by omega) (by omega))
  · skip
    refine j_iconst hx dX12_turnFor_10 ?_
    have f69 := zf hS0 ha (k := 0) rfl
    have f70 := zf hS0 ha (k := 3) rfl
    have f71 := zf hS0 ha (k := 4) rfl
    have f72 := zf hS0 ha (k := 5) rfl
    have f73 := zf hS0 ha (k := 7) rfl
    have f74 := zf hS0 ha (k := 21) rfl
    have f75 := zf hS0 ha (k := 22) rfl
    have f76 := zf hS0 ha (k := 23) rfl
    have f77 := zf hS0 ha (k := 24) rfl
    have f78 := zf hS0 ha (k := 38) rfl
    have f79 := zf hS0 ha (k := 51) rfl
    have f80 := zf hS0 ha (k := 52) rfl
    exact j_zret hx hq rfl (by decide) (by decide) dX12_turnFor_11 (by omega) ⟨0, rfl, rfl, hS0, zFr_rf, ⟨(by omega), by omega, by omega, by omega, by omega, by omega, by omega, by omega, by omega, by omega, by omega, by omega, by omega, by omega, by omega⟩⟩

theorem lk_RX12_453 : LkV RX12 453 RX12 yX12_turnFor cX12_turnFor 4 (some .boolean) 1 := ⟨km_RX12_453, ki_yX12_turnFor, ks_RX12_yX12_turnFor, kn_RX12, kc_yX12_turnFor, rfl, by decide +kernel, by decide +kernel, by decide +kernel⟩
set_option maxHeartbeats 1200000 in
set_option maxRecDepth 20000 in
theorem c_X12_where {E : zE} {l : Launch} (hst : l.stackTraces = false) (a : Nat) (x1 : Int) : Con E l yX12_where cX12_where 5 (some .int) { frames := 5, cells := 0, slots := 0, locals := 118 } (fun G s vs => vs = [.ref a, .int (zI x1)] ∧ zGK G ∧ zSK G s ∧ (gT G a = 13) ∧ ((-2147483648) ≤ x1 ∧ x1 ≤ 2147483647) ∧ (zc (s (gP G a 27)) ≤ 60) ∧ (s (gP G a 27) 488 ≤ 520000)) (fun G s _ => pI (fun r G2 s2 => G2 = G ∧ zSK G s2 ∧ zFr [13, 84, 87, 99, 100] G s s2 ∧ ((-2147483648) ≤ r ∧ r ≤ 2147483647) ∧ zc (s2 (gP G a 27)) = zc (s (gP G a 27)) ∧ s2 (gP G a 27) 488 = s (gP G a 27) 488 ∧ s2 a 3 = s a 3 ∧ s2 a 4 = s a 4 ∧ s2 a 5 = s a 5 ∧ s2 a 7 = s a 7 ∧ s2 a 21 = s a 21 ∧ s2 a 22 = s a 22 ∧ s2 a 23 = s a 23 ∧ s2 a 24 = s a 24 ∧ s2 a 38 = s a 38 ∧ s2 a 51 = s a 51 ∧ s2 a 52 = s a 52)) := by
  refine Con.mk hst (by decide) (fun G s vs h => by rw [h.1]; exact Nat.le_of_ble_eq_true rfl) ?_
  rintro X G s0 vs ⟨rfl, hG, hS0, ha, hx1, e0, e1⟩ rfl hx hq
  show JJ X E 5 G s0 0 0 [(0, .ref a), (1, .int (zI x1))] 0 []
  refine j_aload_n hx 0 dX12_where_0 rfl ?_
  refine j_iconst hx dX12_where_1 ?_
  refine p13_0 hx hG ha kf_RX12_3 dX12_where_2 ?_
  obtain ⟨s1, e_s1⟩ : ∃ z, z = zU s0 a 0 0 := ⟨_, rfl⟩
  rw [← e_s1]
  have hS_s1 : zSK G s1 := by rw [e_s1]; exact zSK_F hS0 ha rfl rfl rfl (by omega)
  refine j_aload_n hx 0 dX12_where_5 rfl ?_
  have g1 : zc (s1 (gP G a 27)) = zc (s0 (gP G a 27)) := by rw [e_s1, zU_ne (zne ha (zr (k := 27) (t2 := 84) hG ha rfl) (by decide))]
  have g2 : s1 (gP G a 27) 488 = s0 (gP G a 27) 488 := (by rw [e_s1, zU_at (Or.inl (zne ha (zr (k := 27) (t2 := 84) hG ha rfl) (by decide)))])
  refine j_callV hx hG (c_X12_keeps hst a) lk_RX12_444 ha (by decide) rfl rfl rfl rfl [] ⟨rfl, hG, hS_s1, ha⟩ rfl rfl ⟨by decide, by decide⟩ ⟨by decide, by decide⟩ (k2 := 0) (n2 := 0) rfl rfl (Nat.le_of_ble_eq_true rfl) dX12_where_6 (kVM (fun s2 hS_s2 hF_s2 q4 => ?_))
  refine j_iconst hx dX12_where_9 ?_
  refine j_istore_n hx [(2, .int (zI 0)), (0, .ref a), (1, .int (zI x1))] dX12_where_10 (by decide) rfl ?_
  refine j_iconst hx dX12_where_11 ?_
  refine j_istore_n hx [(3, .int (zI (-1))), (2, .int (zI 0)), (0, .ref a), (1, .int (zI x1))] dX12_where_12 (by decide) rfl ?_
  refine j_iconst hx dX12_where_13 ?_
  refine j_istore hx [(4, .int (zI 0)), (3, .int (zI (-1))), (2, .int (zI 0)), (0, .ref a), (1, .int (zI x1))] dX12_where_14 (by decide) rfl ?_
  have g8 : s2 a 0 = 0 := (by rw [(zFr_g hF_s2 ha (by decide)), e_s1, zU_eq])
  have g9 : s2 a 3 = s0 a 3 := (by rw [(zFr_g hF_s2 ha (by decide)), e_s1, zU_at (Or.inr (by decide))])
  have f10 := zf hS0 ha (k := 3) rfl
  have g11 : s2 a 4 = s0 a 4 := (by rw [(zFr_g hF_s2 ha (by decide)), e_s1, zU_at (Or.inr (by decide))])
  have f12 := zf hS0 ha (k := 4) rfl
  have g13 : s2 a 5 = s0 a 5 := (by rw [(zFr_g hF_s2 ha (by decide)), e_s1, zU_at (Or.inr (by decide))])
  have f14 := zf hS0 ha (k := 5) rfl
  have g15 : s2 a 7 = s0 a 7 := (by rw [(zFr_g hF_s2 ha (by decide)), e_s1, zU_at (Or.inr (by decide))])
  have f16 := zf hS0 ha (k := 7) rfl
  have g17 : s2 a 21 = s0 a 21 := (by rw [(zFr_g hF_s2 ha (by decide)), e_s1, zU_at (Or.inr (by decide))])
  have f18 := zf hS0 ha (k := 21) rfl
  have g19 : s2 a 22 = s0 a 22 := (by rw [(zFr_g hF_s2 ha (by decide)), e_s1, zU_at (Or.inr (by decide))])
  have f20 := zf hS0 ha (k := 22) rfl
  have g21 : s2 a 23 = s0 a 23 := (by rw [(zFr_g hF_s2 ha (by decide)), e_s1, zU_at (Or.inr (by decide))])
  have f22 := zf hS0 ha (k := 23) rfl
  have g23 : s2 a 24 = s0 a 24 := (by rw [(zFr_g hF_s2 ha (by decide)), e_s1, zU_at (Or.inr (by decide))])
  have f24 := zf hS0 ha (k := 24) rfl
  have g25 : s2 a 38 = s0 a 38 := (by rw [(zFr_g hF_s2 ha (by decide)), e_s1, zU_at (Or.inr (by decide))])
  have f26 := zf hS0 ha (k := 38) rfl
  have g27 : s2 a 51 = s0 a 51 := (by rw [(zFr_g hF_s2 ha (by decide)), e_s1, zU_at (Or.inr (by decide))])
  have f28 := zf hS0 ha (k := 51) rfl
  have g29 : s2 a 52 = s0 a 52 := (by rw [(zFr_g hF_s2 ha (by decide)), e_s1, zU_at (Or.inr (by decide))])
  have f30 := zf hS0 ha (k := 52) rfl
  have g31 : s2 (gP G a 27) 488 = s0 (gP G a 27) 488 := (by rw [(zFr_g hF_s2 (zr (k := 27) (t2 := 84) hG ha rfl) (by decide)), e_s1, zU_at (Or.inl (zne ha (zr (k := 27) (t2 := 84) hG ha rfl) (by decide)))])
  have g32 : zc (s2 (gP G a 27)) = zc (s0 (gP G a 27)) := by rw [hF_s2 (gP G a 27) (by rw [(zr (k := 27) (t2 := 84) hG ha rfl)]; decide), e_s1, zU_ne (zne ha (zr (k := 27) (t2 := 84) hG ha rfl) (by decide))]
  have c16_3 : ∀ (m_c16_3 : Nat) (v5 : Int) (v6 : Int) (v7 : Int) (s4 : zS), 2147483648 - v7 < m_c16_3 → ((-2147483648) ≤ v5 ∧ v5 ≤ 2147483647) → ((-1) ≤ v6 ∧ v6 ≤ 59) → (0 ≤ v7 ∧ v7 ≤ 60) → (zSK G s4) → (zFr [13, 84] G s2 s4) → (s4 a 0 = s2 a 0) → (s4 a 3 = s2 a 3) → (s4 a 4 = s2 a 4) → (s4 a 5 = s2 a 5) → (s4 a 7 = s2 a 7) → (s4 a 21 = s2 a 21) → (s4 a 22 = s2 a 22) → (s4 a 23 = s2 a 23) → (s4 a 24 = s2 a 24) → (s4 a 38 = s2 a 38) → (s4 a 51 = s2 a 51) → (s4 a 52 = s2 a 52) → (zc (s4 (gP G a 27)) = zc (s2 (gP G a 27))) → (s4 (gP G a 27) 488 ≤ s2 (gP G a 27) 488 + v7) → JJ X E 5 G s4 0 0 [(0, .ref a), (1, .int (zI x1)), (2, .int (zI v5)), (3, .int (zI v6)), (4, .int (zI v7))] 16 [] := by
    intro m_c16_3
    induction m_c16_3 with
    | zero => intro v5 v6 v7 s4 hm_c16_3 fA5 fA6 fA7 hS_s4 hF_s4 fA10 fA11 fA12 fA13 fA14 fA15 fA16 fA17 fA18 fA19 fA20 fA21 fA22 fA23; exfalso; omega
    | succ m_c16_3 ih_c16_3 => 
      intro v5 v6 v7 s4 hm_c16_3 fA5 fA6 fA7 hS_s4 hF_s4 fA10 fA11 fA12 fA13 fA14 fA15 fA16 fA17 fA18 fA19 fA20 fA21 fA22 fA23
      refine j_iload hx 4 dX12_where_16 rfl ?_
      refine j_bipush hx dX12_where_18 rfl ?_
      refine j_icmp_ge hx 64 dX12_where_20 rfl (by omega) ⟨by decide, by decide⟩ (fun h33 => ?_) (fun h33 => ?_)
      · skip
        refine j_aload_n hx 0 dX12_where_64 rfl ?_
        have g34 : zc (s4 (gP G a 46)) = zc (s2 (gP G a 46)) := by rw [hF_s4 (gP G a 46) (by rw [(zr (k := 46) (t2 := 99) hG ha rfl)]; decide)]
        have g35 : s4 (gP G a 46) 488 = s2 (gP G a 46) 488 := (by rw [(zFr_g hF_s4 (zr (k := 46) (t2 := 99) hG ha rfl) (by decide))])
        refine j_callV hx hG (c_X12_back hst a) lk_RX12_450 ha (by decide) rfl rfl rfl rfl [] ⟨rfl, hG, hS_s4, ha⟩ rfl rfl ⟨by decide, by decide⟩ ⟨by decide, by decide⟩ (k2 := 0) (n2 := 0) rfl rfl (Nat.le_of_ble_eq_true rfl) dX12_where_65 (kVM (fun s24 hS_s24 hF_s24 q37 => ?_))
        refine j_iload_n hx 3 dX12_where_68 rfl ?_
        have g38 : s24 a 3 = s4 a 3 := (by rw [(zFr_g hF_s24 ha (by decide))])
        have f39 := zf hS_s4 ha (k := 3) rfl
        have g40 : s24 a 4 = s4 a 4 := (by rw [(zFr_g hF_s24 ha (by decide))])
        have f41 := zf hS_s4 ha (k := 4) rfl
        have g42 : s24 a 5 = s4 a 5 := (by rw [(zFr_g hF_s24 ha (by decide))])
        have f43 := zf hS_s4 ha (k := 5) rfl
        have g44 : s24 a 7 = s4 a 7 := (by rw [(zFr_g hF_s24 ha (by decide))])
        have f45 := zf hS_s4 ha (k := 7) rfl
        have g46 : s24 a 21 = s4 a 21 := (by rw [(zFr_g hF_s24 ha (by decide))])
        have f47 := zf hS_s4 ha (k := 21) rfl
        have g48 : s24 a 22 = s4 a 22 := (by rw [(zFr_g hF_s24 ha (by decide))])
        have f49 := zf hS_s4 ha (k := 22) rfl
        have g50 : s24 a 23 = s4 a 23 := (by rw [(zFr_g hF_s24 ha (by decide))])
        have f51 := zf hS_s4 ha (k := 23) rfl
        have g52 : s24 a 24 = s4 a 24 := (by rw [(zFr_g hF_s24 ha (by decide))])
        have f53 := zf hS_s4 ha (k := 24) rfl
        have g54 : s24 a 38 = s4 a 38 := (by rw [(zFr_g hF_s24 ha (by decide))])
        have f55 := zf hS_s4 ha (k := 38) rfl
        have g56 : s24 a 51 = s4 a 51 := (by rw [(zFr_g hF_s24 ha (by decide))])
        have f57 := zf hS_s4 ha (k := 51) rfl
        have g58 : s24 a 52 = s4 a 52 := (by rw [(zFr_g hF_s24 ha (by decide))])
        have f59 := zf hS_s4 ha (k := 52) rfl
        exact j_iret hx hq rfl (by decide) (by decide) dX12_where_69 ⟨v6, rfl, rfl, hS_s24, (zFr_t (zFr_t (zFr_t (zFr_u zFr_rf e_s1 ha (by decide)) hF_s2 (by decide)) hF_s4 (by decide)) hF_s24 (by decide)), ⟨(by omega), by omega, by omega, by omega, by omega, by omega, by omega, by omega, by omega, by omega, by omega, by omega, by omega, by omega⟩⟩
      · skip
        refine j_iload_n hx 3 dX12_where_23 rfl ?_
        refine j_iconst hx dX12_where_24 ?_
        refine j_icmp_ne hx 64 dX12_where_25 rfl (by omega) ⟨by decide, by decide⟩ (fun h60 => ?_) (fun h60 => ?_)
        · skip
          refine j_aload_n hx 0 dX12_where_64 rfl ?_
          have g61 : zc (s4 (gP G a 46)) = zc (s2 (gP G a 46)) := by rw [hF_s4 (gP G a 46) (by rw [(zr (k := 46) (t2 := 99) hG ha rfl)]; decide)]
          have g62 : s4 (gP G a 46) 488 = s2 (gP G a 46) 488 := (by rw [(zFr_g hF_s4 (zr (k := 46) (t2 := 99) hG ha rfl) (by decide))])
          refine j_callV hx hG (c_X12_back hst a) lk_RX12_450 ha (by decide) rfl rfl rfl rfl [] ⟨rfl, hG, hS_s4, ha⟩ rfl rfl ⟨by decide, by decide⟩ ⟨by decide, by decide⟩ (k2 := 0) (n2 := 0) rfl rfl (Nat.le_of_ble_eq_true rfl) dX12_where_65 (kVM (fun s25 hS_s25 hF_s25 q64 => ?_))
          refine j_iload_n hx 3 dX12_where_68 rfl ?_
          have g65 : s25 a 3 = s4 a 3 := (by rw [(zFr_g hF_s25 ha (by decide))])
          have f66 := zf hS_s4 ha (k := 3) rfl
          have g67 : s25 a 4 = s4 a 4 := (by rw [(zFr_g hF_s25 ha (by decide))])
          have f68 := zf hS_s4 ha (k := 4) rfl
          have g69 : s25 a 5 = s4 a 5 := (by rw [(zFr_g hF_s25 ha (by decide))])
          have f70 := zf hS_s4 ha (k := 5) rfl
          have g71 : s25 a 7 = s4 a 7 := (by rw [(zFr_g hF_s25 ha (by decide))])
          have f72 := zf hS_s4 ha (k := 7) rfl
          have g73 : s25 a 21 = s4 a 21 := (by rw [(zFr_g hF_s25 ha (by decide))])
          have f74 := zf hS_s4 ha (k := 21) rfl
          have g75 : s25 a 22 = s4 a 22 := (by rw [(zFr_g hF_s25 ha (by decide))])
          have f76 := zf hS_s4 ha (k := 22) rfl
          have g77 : s25 a 23 = s4 a 23 := (by rw [(zFr_g hF_s25 ha (by decide))])
          have f78 := zf hS_s4 ha (k := 23) rfl
          have g79 : s25 a 24 = s4 a 24 := (by rw [(zFr_g hF_s25 ha (by decide))])
          have f80 := zf hS_s4 ha (k := 24) rfl
          have g81 : s25 a 38 = s4 a 38 := (by rw [(zFr_g hF_s25 ha (by decide))])
          have f82 := zf hS_s4 ha (k := 38) rfl
          have g83 : s25 a 51 = s4 a 51 := (by rw [(zFr_g hF_s25 ha (by decide))])
          have f84 := zf hS_s4 ha (k := 51) rfl
          have g85 : s25 a 52 = s4 a 52 := (by rw [(zFr_g hF_s25 ha (by decide))])
          have f86 := zf hS_s4 ha (k := 52) rfl
          exact j_iret hx hq rfl (by decide) (by decide) dX12_where_69 ⟨v6, rfl, rfl, hS_s25, (zFr_t (zFr_t (zFr_t (zFr_u zFr_rf e_s1 ha (by decide)) hF_s2 (by decide)) hF_s4 (by decide)) hF_s25 (by decide)), ⟨(by omega), by omega, by omega, by omega, by omega, by omega, by omega, by omega, by omega, by omega, by omega, by omega, by omega, by omega⟩⟩
        · skip
          refine j_aload_n hx 0 dX12_where_28 rfl ?_
          refine j_iconst hx dX12_where_29 ?_
          have f87 := zf hS_s4 ha (k := 0) rfl
          have f88 := zf hS_s4 ha (k := 3) rfl
          have f89 := zf hS_s4 ha (k := 4) rfl
          have f90 := zf hS_s4 ha (k := 5) rfl
          have f91 := zf hS_s4 ha (k := 7) rfl
          have f92 := zf hS_s4 ha (k := 21) rfl
          have f93 := zf hS_s4 ha (k := 22) rfl
          have f94 := zf hS_s4 ha (k := 23) rfl
          have f95 := zf hS_s4 ha (k := 24) rfl
          have f96 := zf hS_s4 ha (k := 38) rfl
          have f97 := zf hS_s4 ha (k := 51) rfl
          have f98 := zf hS_s4 ha (k := 52) rfl
          refine j_callV hx hG (c_X12_turnFor hst a (-1)) lk_RX12_453 ha (by decide) rfl rfl rfl rfl [.int (zI (-1))] ⟨rfl, hG, hS_s4, ha, (by omega), (by omega), (by omega)⟩ rfl rfl ⟨by decide, by decide⟩ ⟨by decide, by decide⟩ (k2 := 0) (n2 := 0) rfl rfl (Nat.le_of_ble_eq_true rfl) dX12_where_30 (kIM (fun v99 s26 hS_s26 hF_s26 q100 => ?_))
          refine j_if_eq hx 64 dX12_where_33 rfl (by omega) (fun h101 => ?_) (fun h101 => ?_)
          · skip
            refine j_aload_n hx 0 dX12_where_64 rfl ?_
            have g102 : zc (s26 (gP G a 46)) = zc (s2 (gP G a 46)) := by rw [hF_s26 (gP G a 46) (by rw [(zr (k := 46) (t2 := 99) hG ha rfl)]; decide), hF_s4 (gP G a 46) (by rw [(zr (k := 46) (t2 := 99) hG ha rfl)]; decide)]
            have g103 : s26 (gP G a 46) 488 = s2 (gP G a 46) 488 := (by rw [(zFr_g hF_s26 (zr (k := 46) (t2 := 99) hG ha rfl) (by decide)), (zFr_g hF_s4 (zr (k := 46) (t2 := 99) hG ha rfl) (by decide))])
            refine j_callV hx hG (c_X12_back hst a) lk_RX12_450 ha (by decide) rfl rfl rfl rfl [] ⟨rfl, hG, hS_s26, ha⟩ rfl rfl ⟨by decide, by decide⟩ ⟨by decide, by decide⟩ (k2 := 0) (n2 := 0) rfl rfl (Nat.le_of_ble_eq_true rfl) dX12_where_65 (kVM (fun s27 hS_s27 hF_s27 q105 => ?_))
            refine j_iload_n hx 3 dX12_where_68 rfl ?_
            have g106 : s27 a 3 = s26 a 3 := (by rw [(zFr_g hF_s27 ha (by decide))])
            have f107 := zf hS_s26 ha (k := 3) rfl
            have g108 : s27 a 4 = s26 a 4 := (by rw [(zFr_g hF_s27 ha (by decide))])
            have f109 := zf hS_s26 ha (k := 4) rfl
            have g110 : s27 a 5 = s26 a 5 := (by rw [(zFr_g hF_s27 ha (by decide))])
            have f111 := zf hS_s26 ha (k := 5) rfl
            have g112 : s27 a 7 = s26 a 7 := (by rw [(zFr_g hF_s27 ha (by decide))])
            have f113 := zf hS_s26 ha (k := 7) rfl
            have g114 : s27 a 21 = s26 a 21 := (by rw [(zFr_g hF_s27 ha (by decide))])
            have f115 := zf hS_s26 ha (k := 21) rfl
            have g116 : s27 a 22 = s26 a 22 := (by rw [(zFr_g hF_s27 ha (by decide))])
            have f117 := zf hS_s26 ha (k := 22) rfl
            have g118 : s27 a 23 = s26 a 23 := (by rw [(zFr_g hF_s27 ha (by decide))])
            have f119 := zf hS_s26 ha (k := 23) rfl
            have g120 : s27 a 24 = s26 a 24 := (by rw [(zFr_g hF_s27 ha (by decide))])
            have f121 := zf hS_s26 ha (k := 24) rfl
            have g122 : s27 a 38 = s26 a 38 := (by rw [(zFr_g hF_s27 ha (by decide))])
            have f123 := zf hS_s26 ha (k := 38) rfl
            have g124 : s27 a 51 = s26 a 51 := (by rw [(zFr_g hF_s27 ha (by decide))])
            have f125 := zf hS_s26 ha (k := 51) rfl
            have g126 : s27 a 52 = s26 a 52 := (by rw [(zFr_g hF_s27 ha (by decide))])
            have f127 := zf hS_s26 ha (k := 52) rfl
            exact j_iret hx hq rfl (by decide) (by decide) dX12_where_69 ⟨v6, rfl, rfl, hS_s27, (zFr_t (zFr_t (zFr_t (zFr_t (zFr_u zFr_rf e_s1 ha (by decide)) hF_s2 (by decide)) hF_s4 (by decide)) hF_s26 (by decide)) hF_s27 (by decide)), ⟨(by omega), by omega, by omega, by omega, by omega, by omega, by omega, by omega, by omega, by omega, by omega, by omega, by omega, by omega⟩⟩
          · skip
            refine j_aload_n hx 0 dX12_where_36 rfl ?_
            refine j_callV hx hG (c_X12_alikes hst a) lk_RX12_343 ha (by decide) rfl rfl rfl rfl [] ⟨rfl, hG, hS_s26, ha⟩ rfl rfl ⟨by decide, by decide⟩ ⟨by decide, by decide⟩ (k2 := 0) (n2 := 0) rfl rfl (Nat.le_of_ble_eq_true rfl) dX12_where_37 (kIP (fun v128 q129 => ?_))
            refine j_iconst hx dX12_where_40 ?_
            refine j_icmp_ne hx 47 dX12_where_41 rfl (by omega) ⟨by decide, by decide⟩ (fun h130 => ?_) (fun h130 => ?_)
            · skip
              refine j_iload_n hx 2 dX12_where_47 rfl ?_
              refine j_iload_n hx 1 dX12_where_48 rfl ?_
              refine j_icmp_ne hx 55 dX12_where_49 rfl (by omega) (by omega) (fun h131 => ?_) (fun h131 => ?_)
              · skip
                refine j_iincN hx 2 (fun v132 => [(2, .int (zI v132)), (0, .ref a), (1, .int (zI x1)), (3, .int (zI v6)), (4, .int (zI v7))]) dX12_where_55 rfl (by decide) (fun _ => rfl) (fun v132 f133 f134 f135 => ?_)
                refine j_iinc hx 4 [(4, .int (zI (v7 + 1))), (2, .int (zI v132)), (0, .ref a), (1, .int (zI x1)), (3, .int (zI v6))] dX12_where_58 rfl (by omega) (by decide) rfl ?_
                refine j_goto hx 16 dX12_where_61 rfl ?_
                have f136 := zf hS_s26 ha (k := 0) rfl
                have f137 := zf hS_s26 ha (k := 3) rfl
                have f138 := zf hS_s26 ha (k := 4) rfl
                have f139 := zf hS_s26 ha (k := 5) rfl
                have f140 := zf hS_s26 ha (k := 7) rfl
                have f141 := zf hS_s26 ha (k := 21) rfl
                have f142 := zf hS_s26 ha (k := 22) rfl
                have f143 := zf hS_s26 ha (k := 23) rfl
                have f144 := zf hS_s26 ha (k := 24) rfl
                have f145 := zf hS_s26 ha (k := 38) rfl
                have f146 := zf hS_s26 ha (k := 51) rfl
                have f147 := zf hS_s26 ha (k := 52) rfl
                exact j_sub [2, 3, 1, 4, 0] [(0, .ref a), (1, .int (zI x1)), (2, .int (zI v132)), (3, .int (zI v6)), (4, .int (zI (v7 + 1)))] rfl (ih_c16_3 v132 v6 (v7 + 1) s26 (by omega) (by omega) (by omega) (by omega) hS_s26 (zFr_t (zFr_t zFr_rf hF_s4 (by decide)) hF_s26 (by decide)) (by omega) (by omega) (by omega) (by omega) (by omega) (by omega) (by omega) (by omega) (by omega) (by omega) (by omega) (by omega) (by omega) (by omega))
              · skip
                refine j_iload hx 4 dX12_where_52 rfl ?_
                refine j_istore_n hx [(3, .int (zI v7)), (0, .ref a), (1, .int (zI x1)), (2, .int (zI v5)), (4, .int (zI v7))] dX12_where_54 (by decide) rfl ?_
                refine j_iincN hx 3 (fun v148 => [(2, .int (zI v148)), (3, .int (zI v7)), (0, .ref a), (1, .int (zI x1)), (4, .int (zI v7))]) dX12_where_55 rfl (by decide) (fun _ => rfl) (fun v148 f149 f150 f151 => ?_)
                refine j_iinc hx 4 [(4, .int (zI (v7 + 1))), (2, .int (zI v148)), (3, .int (zI v7)), (0, .ref a), (1, .int (zI x1))] dX12_where_58 rfl (by omega) (by decide) rfl ?_
                refine j_goto hx 16 dX12_where_61 rfl ?_
                have f152 := zf hS_s26 ha (k := 0) rfl
                have f153 := zf hS_s26 ha (k := 3) rfl
                have f154 := zf hS_s26 ha (k := 4) rfl
                have f155 := zf hS_s26 ha (k := 5) rfl
                have f156 := zf hS_s26 ha (k := 7) rfl
                have f157 := zf hS_s26 ha (k := 21) rfl
                have f158 := zf hS_s26 ha (k := 22) rfl
                have f159 := zf hS_s26 ha (k := 23) rfl
                have f160 := zf hS_s26 ha (k := 24) rfl
                have f161 := zf hS_s26 ha (k := 38) rfl
                have f162 := zf hS_s26 ha (k := 51) rfl
                have f163 := zf hS_s26 ha (k := 52) rfl
                exact j_sub [3, 4, 1, 2, 0] [(0, .ref a), (1, .int (zI x1)), (2, .int (zI v148)), (3, .int (zI v7)), (4, .int (zI (v7 + 1)))] rfl (ih_c16_3 v148 v7 (v7 + 1) s26 (by omega) (by omega) (by omega) (by omega) hS_s26 (zFr_t (zFr_t zFr_rf hF_s4 (by decide)) hF_s26 (by decide)) (by omega) (by omega) (by omega) (by omega) (by omega) (by omega) (by omega) (by omega) (by omega) (by omega) (by omega) (by omega) (by omega) (by omega))
            · skip
              refine j_goto hx 58 dX12_where_44 rfl ?_
              refine j_iinc hx 4 [(4, .int (zI (v7 + 1))), (0, .ref a), (1, .int (zI x1)), (2, .int (zI v5)), (3, .int (zI v6))] dX12_where_58 rfl (by omega) (by decide) rfl ?_
              refine j_goto hx 16 dX12_where_61 rfl ?_
              have f164 := zf hS_s26 ha (k := 0) rfl
              have f165 := zf hS_s26 ha (k := 3) rfl
              have f166 := zf hS_s26 ha (k := 4) rfl
              have f167 := zf hS_s26 ha (k := 5) rfl
              have f168 := zf hS_s26 ha (k := 7) rfl
              have f169 := zf hS_s26 ha (k := 21) rfl
              have f170 := zf hS_s26 ha (k := 22) rfl
              have f171 := zf hS_s26 ha (k := 23) rfl
              have f172 := zf hS_s26 ha (k := 24) rfl
              have f173 := zf hS_s26 ha (k := 38) rfl
              have f174 := zf hS_s26 ha (k := 51) rfl
              have f175 := zf hS_s26 ha (k := 52) rfl
              exact j_sub [1, 2, 3, 4, 0] [(0, .ref a), (1, .int (zI x1)), (2, .int (zI v5)), (3, .int (zI v6)), (4, .int (zI (v7 + 1)))] rfl (ih_c16_3 v5 v6 (v7 + 1) s26 (by omega) (by omega) (by omega) (by omega) hS_s26 (zFr_t (zFr_t zFr_rf hF_s4 (by decide)) hF_s26 (by decide)) (by omega) (by omega) (by omega) (by omega) (by omega) (by omega) (by omega) (by omega) (by omega) (by omega) (by omega) (by omega) (by omega) (by omega))
  exact j_sub [3, 4, 2, 1, 0] [(0, .ref a), (1, .int (zI x1)), (2, .int (zI 0)), (3, .int (zI (-1))), (4, .int (zI 0))] rfl (c16_3 (2147483648 * 4) 0 (-1) 0 s2 (by omega) (by omega) (by omega) (by omega) hS_s2 zFr_rf (by omega) (by omega) (by omega) (by omega) (by omega) (by omega) (by omega) (by omega) (by omega) (by omega) (by omega) (by omega) (by omega) (by omega))

set_option maxHeartbeats 1200000 in
set_option maxRecDepth 20000 in
theorem c_X12_isOther {E : zE} {l : Launch} (hst : l.stackTraces = false) (a : Nat) (x1 : Int) (x2 : Int) : Con E l yX12_isOther cX12_isOther 4 (some .boolean) { frames := 1, cells := 0, slots := 0, locals := 21 } (fun G s vs => vs = [.ref a, .int (zI x1), .int (zI x2)] ∧ zGK G ∧ zSK G s ∧ (gT G a = 13) ∧ (0 ≤ x1 ∧ x1 ≤ 2) ∧ ((-2147483648) ≤ x2 ∧ x2 ≤ 2147483647)) (fun G s _ => pI (fun r G2 s2 => G2 = G ∧ s2 = s ∧ (0 ≤ r ∧ r ≤ 1))) := by
  refine Con.mk hst (by decide) (fun G s vs h => by rw [h.1]; exact Nat.le_of_ble_eq_true rfl) ?_
  rintro X G s0 vs ⟨rfl, hG, hS0, ha, hx1, hx2⟩ rfl hx hq
  show JJ X E 4 G s0 0 0 [(0, .ref a), (1, .int (zI x1)), (2, .int (zI x2))] 0 []
  refine j_iconst hx dX12_isOther_0 ?_
  refine j_istore_n hx [(3, .int (zI 0)), (0, .ref a), (1, .int (zI x1)), (2, .int (zI x2))] dX12_isOther_1 (by decide) rfl ?_
  have c2_1 : ∀ (m_c2_1 : Nat) (v1 : Int), 2147483648 - v1 < m_c2_1 → (0 ≤ v1 ∧ v1 ≤ 3) → JJ X E 4 G s0 0 0 [(0, .ref a), (1, .int (zI x1)), (2, .int (zI x2)), (3, .int (zI v1))] 2 [] := by
    intro m_c2_1
    induction m_c2_1 with
    | zero => intro v1 hm_c2_1 fA2; exfalso; omega
    | succ m_c2_1 ih_c2_1 => 
      intro v1 hm_c2_1 fA2
      refine j_iload_n hx 3 dX12_isOther_2 rfl ?_
      refine j_aload_n hx 0 dX12_isOther_3 rfl ?_
      have f2 := zf hS0 ha (k := 24) rfl
      refine g13_24 hx hG ha kf_RX12_189 rfl dX12_isOther_4 ?_
      refine j_icmp_ge hx 32 dX12_isOther_7 rfl (by omega) (by omega) (fun h3 => ?_) (fun h3 => ?_)
      · skip
        refine j_iconst hx dX12_isOther_32 ?_
        exact j_zret hx hq rfl (by decide) (by decide) dX12_isOther_33 (by omega) ⟨0, rfl, rfl, rfl, (by omega)⟩
      · skip
        refine j_iload_n hx 3 dX12_isOther_10 rfl ?_
        refine j_iload_n hx 1 dX12_isOther_11 rfl ?_
        have c26_3 : JJ X E 4 G s0 0 0 [(0, .ref a), (1, .int (zI x1)), (2, .int (zI x2)), (3, .int (zI v1))] 26 [] := by
          refine j_iinc hx 3 [(3, .int (zI (v1 + 1))), (0, .ref a), (1, .int (zI x1)), (2, .int (zI x2))] dX12_isOther_26 rfl (by omega) (by decide) rfl ?_
          refine j_goto hx 2 dX12_isOther_29 rfl ?_
          exact j_sub [1, 2, 3, 0] [(0, .ref a), (1, .int (zI x1)), (2, .int (zI x2)), (3, .int (zI (v1 + 1)))] rfl (ih_c2_1 (v1 + 1) (by omega) (by omega))
        refine j_icmp_eq hx 26 dX12_isOther_12 rfl (by omega) (by omega) (fun h4 => ?_) (fun h4 => ?_)
        · skip
          exact j_sub [0, 1, 2, 3] [(0, .ref a), (1, .int (zI x1)), (2, .int (zI x2)), (3, .int (zI v1))] rfl (c26_3  )
        · skip
          refine j_aload_n hx 0 dX12_isOther_15 rfl ?_
          refine j_iload_n hx 3 dX12_isOther_16 rfl ?_
          refine j_callV hx hG (c_X12_top hst a v1) lk_RX12_334 ha (by decide) rfl rfl rfl rfl [.int (zI v1)] ⟨rfl, hG, hS0, ha, (by omega)⟩ rfl rfl ⟨by decide, by decide⟩ ⟨by decide, by decide⟩ (k2 := 0) (n2 := 0) rfl rfl (Nat.le_of_ble_eq_true rfl) dX12_isOther_17 (kIP (fun v5 q6 => ?_))
          refine j_iload_n hx 2 dX12_isOther_20 rfl ?_
          refine j_icmp_ne hx 26 dX12_isOther_21 rfl (by omega) (by omega) (fun h7 => ?_) (fun h7 => ?_)
          · skip
            exact j_sub [0, 1, 2, 3] [(0, .ref a), (1, .int (zI x1)), (2, .int (zI x2)), (3, .int (zI v1))] rfl (c26_3  )
          · skip
            refine j_iconst hx dX12_isOther_24 ?_
            exact j_zret hx hq rfl (by decide) (by decide) dX12_isOther_25 (by omega) ⟨1, rfl, rfl, rfl, (by omega)⟩
  exact j_sub [1, 2, 3, 0] [(0, .ref a), (1, .int (zI x1)), (2, .int (zI x2)), (3, .int (zI 0))] rfl (c2_1 (2147483648 * 4) 0 (by omega) (by omega))

set_option maxHeartbeats 1200000 in
set_option maxRecDepth 20000 in
theorem c_X12_divisor {E : zE} {l : Launch} (hst : l.stackTraces = false) (x0 : Int) (x1 : Int) : Con E l yX12_divisor cX12_divisor 5 (some .int) { frames := 0, cells := 0, slots := 0, locals := 0 } (fun G s vs => vs = [.int (zI x0), .int (zI x1)] ∧ zGK G ∧ zSK G s ∧ (0 ≤ x0 ∧ x0 ≤ 60) ∧ (0 ≤ x1 ∧ x1 ≤ 60) ∧ (1 ≤ x0 ∨ 1 ≤ x1)) (fun G s _ => pI (fun r G2 s2 => G2 = G ∧ s2 = s ∧ (1 ≤ r ∧ r ≤ 60))) := by
  refine Con.mk hst (by decide) (fun G s vs h => by rw [h.1]; exact Nat.le_of_ble_eq_true rfl) ?_
  rintro X G s0 vs ⟨rfl, hG, hS0, hx0, hx1, e0⟩ rfl hx hq
  show JJ X E 5 G s0 0 0 [(0, .int (zI x0)), (1, .int (zI x1))] 0 []
  refine j_iload_n hx 0 dX12_divisor_0 rfl ?_
  refine j_istore_n hx [(2, .int (zI x0)), (0, .int (zI x0)), (1, .int (zI x1))] dX12_divisor_1 (by decide) rfl ?_
  refine j_iload_n hx 2 dX12_divisor_2 rfl ?_
  refine j_istore_n hx [(3, .int (zI x1)), (2, .int (zI x0)), (0, .int (zI x0)), (1, .int (zI x1))] dX12_divisor_3 (by decide) rfl ?_
  have c4_1 : ∀ (m_c4_1 : Nat) (v1 : Int) (v2 : Int), v2 < m_c4_1 → (0 ≤ v1 ∧ v1 ≤ 60) → (0 ≤ v2 ∧ v2 ≤ 60) → (1 ≤ v1 ∨ 1 ≤ v2) → JJ X E 5 G s0 0 0 [(2, .int (zI v1)), (3, .int (zI v2))] 4 [] := by
    intro m_c4_1
    induction m_c4_1 with
    | zero => intro v1 v2 hm_c4_1 fA2 fA3 fA4; exfalso; omega
    | succ m_c4_1 ih_c4_1 => 
      intro v1 v2 hm_c4_1 fA2 fA3 fA4
      refine j_iload_n hx 1 dX12_divisor_4 rfl ?_
      refine j_if_eq hx 21 dX12_divisor_5 rfl (by omega) (fun h3 => ?_) (fun h3 => ?_)
      · skip
        refine j_iload_n hx 0 dX12_divisor_21 rfl ?_
        exact j_iret hx hq rfl (by decide) (by decide) dX12_divisor_22 ⟨v1, rfl, rfl, rfl, (by omega)⟩
      · skip
        refine j_iload_n hx 0 dX12_divisor_8 rfl ?_
        refine j_iload_n hx 1 dX12_divisor_9 rfl ?_
        refine j_irem hx dX12_divisor_10 (by omega) (by omega) (by omega) (fun v4 f5 f6 f7 f8 => ?_)
        have f10 : 0 ≤ v4 := by rw [f7 (by omega) (by omega)]; exact Int.emod_nonneg _ (by omega)
        refine j_istore hx [(4, .int (zI v4)), (2, .int (zI v1)), (3, .int (zI v2))] dX12_divisor_11 (by decide) rfl ?_
        refine j_iload_n hx 2 dX12_divisor_13 rfl ?_
        refine j_istore_n hx [(2, .int (zI v2)), (4, .int (zI v4)), (3, .int (zI v2))] dX12_divisor_14 (by decide) rfl ?_
        refine j_iload hx 1 dX12_divisor_15 rfl ?_
        refine j_istore_n hx [(3, .int (zI v4)), (2, .int (zI v2)), (4, .int (zI v4))] dX12_divisor_17 (by decide) rfl ?_
        refine j_goto hx 4 dX12_divisor_18 rfl ?_
        exact j_sub [1, 0] [(2, .int (zI v2)), (3, .int (zI v4))] rfl (ih_c4_1 v2 v4 (by omega) (by omega) (by omega) (by omega))
  exact j_sub [1, 0] [(2, .int (zI x0)), (3, .int (zI x1))] rfl (c4_1 (2147483648 * 4) x0 x1 (by omega) (by omega) (by omega) (by omega))

theorem lk_RX12_456 : LkS RX12 456 yX12_divisor cX12_divisor 5 (some .int) 2 := ⟨km_RX12_456, kst_yX12_divisor, kn_RX12, kc_yX12_divisor, by decide +kernel, by decide +kernel, by decide +kernel⟩
set_option maxHeartbeats 1200000 in
set_option maxRecDepth 20000 in
theorem c_X12_fraction {E : zE} {l : Launch} (hst : l.stackTraces = false) (x0 : Int) (x1 : Int) (x2 : Int) : Con E l yX12_fraction cX12_fraction 3 (some .int) { frames := 1, cells := 0, slots := 0, locals := 24 } (fun G s vs => vs = [.int (zI x0), .int (zI x1), .int (zI x2)] ∧ zGK G ∧ zSK G s ∧ (0 ≤ x0 ∧ x0 ≤ 60) ∧ (1 ≤ x1 ∧ x1 ≤ 60) ∧ (0 ≤ x2 ∧ x2 ≤ 1)) (fun G s _ => pI (fun r G2 s2 => G2 = G ∧ s2 = s ∧ (0 ≤ r ∧ r ≤ 60))) := by
  refine Con.mk hst (by decide) (fun G s vs h => by rw [h.1]; exact Nat.le_of_ble_eq_true rfl) ?_
  rintro X G s0 vs ⟨rfl, hG, hS0, hx0, hx1, hx2⟩ rfl hx hq
  show JJ X E 3 G s0 0 0 [(0, .int (zI x0)), (1, .int (zI x1)), (2, .int (zI x2))] 0 []
  refine j_iload_n hx 2 dX12_fraction_0 rfl ?_
  refine j_if_ne hx 8 dX12_fraction_1 rfl (by omega) (fun h1 => ?_) (fun h1 => ?_)
  · skip
    refine j_iload_n hx 1 dX12_fraction_8 rfl ?_
    refine j_iload_n hx 0 dX12_fraction_9 rfl ?_
    refine j_iload_n hx 1 dX12_fraction_10 rfl ?_
    refine j_callS hx (c_X12_divisor hst x0 x1) lk_RX12_456 [.int (zI x0), .int (zI x1)] ⟨rfl, hG, hS0, (by omega), (by omega), (by omega)⟩ rfl rfl ⟨by decide, by decide⟩ ⟨by decide, by decide⟩ (k2 := 0) (n2 := 0) rfl rfl (Nat.le_of_ble_eq_true rfl) dX12_fraction_11 (kIP (fun v2 q3 => ?_))
    refine j_idiv hx dX12_fraction_14 (by omega) (by omega) (by omega) (fun v4 f5 f6 f7 => ?_)
    have f10 : 0 ≤ v4 ∧ v4 ≤ x1 := by rw [f7 (by omega) (by omega)]; exact ⟨Int.ediv_nonneg (by omega) (by omega), Int.ediv_le_self _ (by omega)⟩
    exact j_iret hx hq rfl (by decide) (by decide) dX12_fraction_15 ⟨v4, rfl, rfl, rfl, (by omega)⟩
  · skip
    refine j_iload_n hx 0 dX12_fraction_4 rfl ?_
    refine j_goto hx 9 dX12_fraction_5 rfl ?_
    refine j_iload_n hx 0 dX12_fraction_9 rfl ?_
    refine j_iload_n hx 1 dX12_fraction_10 rfl ?_
    refine j_callS hx (c_X12_divisor hst x0 x1) lk_RX12_456 [.int (zI x0), .int (zI x1)] ⟨rfl, hG, hS0, (by omega), (by omega), (by omega)⟩ rfl rfl ⟨by decide, by decide⟩ ⟨by decide, by decide⟩ (k2 := 0) (n2 := 0) rfl rfl (Nat.le_of_ble_eq_true rfl) dX12_fraction_11 (kIP (fun v11 q12 => ?_))
    refine j_idiv hx dX12_fraction_14 (by omega) (by omega) (by omega) (fun v13 f14 f15 f16 => ?_)
    have f19 : 0 ≤ v13 ∧ v13 ≤ x0 := by rw [f16 (by omega) (by omega)]; exact ⟨Int.ediv_nonneg (by omega) (by omega), Int.ediv_le_self _ (by omega)⟩
    exact j_iret hx hq rfl (by decide) (by decide) dX12_fraction_15 ⟨v13, rfl, rfl, rfl, (by omega)⟩
