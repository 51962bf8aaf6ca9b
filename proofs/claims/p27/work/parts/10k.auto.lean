theorem lk_RX12_435 : LkV RX12 435 RX12 yX12_writes cX12_writes 5 none 1 := ⟨km_RX12_435, ki_yX12_writes, ks_RX12_yX12_writes, kn_RX12, kc_yX12_writes, rfl, by decide +kernel, by decide +kernel, by decide +kernel⟩
theorem lk_RX12_438 : LkV RX12 438 RX12 yX12_earlier cX12_earlier 5 (some .int) 1 := ⟨km_RX12_438, ki_yX12_earlier, ks_RX12_yX12_earlier, kn_RX12, kc_yX12_earlier, rfl, by decide +kernel, by decide +kernel, by decide +kernel⟩
set_option maxHeartbeats 1200000 in
set_option maxRecDepth 20000 in
theorem c_X12_findEnds {E : zE} {l : Launch} (hst : l.stackTraces = false) (a : Nat) : Con E l yX12_findEnds cX12_findEnds 2 none { frames := 6, cells := 0, slots := 0, locals := 141 } (fun G s vs => vs = [.ref a] ∧ zGK G ∧ zSK G s ∧ (gT G a = 13) ∧ (zc (s (gP G a 27)) ≤ 60) ∧ (zRva (s (gP G a 34)) (s (gP G a 35)) (s (gP G a 37))) ∧ (s (gP G a 27) 488 ≤ 590000)) (fun G s _ => pV (fun G2 s2 => G2 = G ∧ zSK G s2 ∧ zFr [13, 84, 87, 95, 98, 101, 102, 103] G s s2 ∧ zc (s2 (gP G a 27)) = zc (s (gP G a 27)) ∧ s2 a 0 = s a 0 ∧ s2 a 3 = s a 3 ∧ s2 a 4 = s a 4 ∧ s2 a 5 = s a 5 ∧ s2 a 7 = s a 7 ∧ s2 a 21 = s a 21 ∧ s2 a 22 = s a 22 ∧ s2 a 23 = s a 23 ∧ s2 a 24 = s a 24 ∧ s2 a 38 = s a 38)) := by
  refine Con.mk hst (by decide) (fun G s vs h => by rw [h.1]; exact Nat.le_of_ble_eq_true rfl) ?_
  rintro X G s0 vs ⟨rfl, hG, hS0, ha, e0, e1, e2⟩ rfl hx hq
  show JJ X E 2 G s0 0 0 [(0, .ref a)] 0 []
  refine j_iconst hx dX12_findEnds_0 ?_
  refine j_istore_n hx [(1, .int (zI 0)), (0, .ref a)] dX12_findEnds_1 (by decide) rfl ?_
  have c2_1 : ∀ (m_c2_1 : Nat) (v1 : Int) (s2 : zS), 2147483648 - v1 < m_c2_1 → (0 ≤ v1 ∧ v1 ≤ 8192) → (zSK G s2) → (zFr [103] G s0 s2) → (zAll s2 (gP G a 50) (v1).toNat (-1)) → JJ X E 2 G s2 0 0 [(0, .ref a), (1, .int (zI v1))] 2 [] := by
    intro m_c2_1
    induction m_c2_1 with
    | zero => intro v1 s2 hm_c2_1 fA3 hS_s2 hF_s2 hB1; exfalso; omega
    | succ m_c2_1 ih_c2_1 => 
      intro v1 s2 hm_c2_1 fA3 hS_s2 hF_s2 hB1
      refine j_iload_n hx 1 dX12_findEnds_2 rfl ?_
      refine j_sipush hx dX12_findEnds_3 rfl ?_
      refine j_icmp_ge hx 22 dX12_findEnds_6 rfl (by omega) ⟨by decide, by decide⟩ (fun h2 => ?_) (fun h2 => ?_)
      · skip
        have hP3 : zCh (s2 (gP G a 49)) (s2 (gP G a 50)) 0 := zCh_0 hB1 (by omega)
        refine j_aload_n hx 0 dX12_findEnds_22 rfl ?_
        refine j_iconst hx dX12_findEnds_23 ?_
        refine p13_53 hx hG ha kf_RX12_426 dX12_findEnds_24 ?_
        obtain ⟨s7, e_s7⟩ : ∃ z, z = zU s2 a 53 0 := ⟨_, rfl⟩
        rw [← e_s7]
        have hS_s7 : zSK G s7 := by rw [e_s7]; exact zSK_F hS_s2 ha rfl rfl rfl (by omega)
        refine j_aload_n hx 0 dX12_findEnds_27 rfl ?_
        refine j_iconst hx dX12_findEnds_28 ?_
        refine p13_52 hx hG ha kf_RX12_429 dX12_findEnds_29 ?_
        obtain ⟨s8, e_s8⟩ : ∃ z, z = zU s7 a 52 0 := ⟨_, rfl⟩
        rw [← e_s8]
        have hS_s8 : zSK G s8 := by rw [e_s8]; exact zSK_F hS_s7 ha rfl rfl rfl (by omega)
        refine j_aload_n hx 0 dX12_findEnds_32 rfl ?_
        refine j_aload_n hx 0 dX12_findEnds_33 rfl ?_
        refine j_callV hx hG (c_X12_isOver hst a) lk_RX12_328 ha (by decide) rfl rfl rfl rfl [] ⟨rfl, hG, hS_s8, ha⟩ rfl rfl ⟨by decide, by decide⟩ ⟨by decide, by decide⟩ (k2 := 0) (n2 := 0) rfl rfl (Nat.le_of_ble_eq_true rfl) dX12_findEnds_34 (kIP (fun v4 q5 => ?_))
        have c45_9 : ∀ (v6 : Int), ((-1) ≤ v6 ∧ v6 ≤ 1) → JJ X E 2 G s8 0 0 [(0, .ref a)] 45 [.int (zI v6), .ref a] := by
          intro v6 fA10
          refine p13_51 hx hG ha kf_RX12_432 dX12_findEnds_45 ?_
          obtain ⟨s11, e_s11⟩ : ∃ z, z = zU s8 a 51 v6 := ⟨_, rfl⟩
          rw [← e_s11]
          have hS_s11 : zSK G s11 := by rw [e_s11]; exact zSK_F hS_s8 ha rfl rfl rfl (by omega)
          refine j_aload_n hx 0 dX12_findEnds_48 rfl ?_
          refine j_iconst hx dX12_findEnds_49 ?_
          have g7 : zc (s11 (gP G a 27)) = zc (s0 (gP G a 27)) := by rw [e_s11, zU_ne (zne ha (zr (k := 27) (t2 := 84) hG ha rfl) (by decide)), e_s8, zU_ne (zne ha (zr (k := 27) (t2 := 84) hG ha rfl) (by decide)), e_s7, zU_ne (zne ha (zr (k := 27) (t2 := 84) hG ha rfl) (by decide)), hF_s2 (gP G a 27) (by rw [(zr (k := 27) (t2 := 84) hG ha rfl)]; decide)]
          refine j_callV hx hG (c_X12_writes hst a 0) lk_RX12_435 ha (by decide) rfl rfl rfl rfl [.int (zI 0)] ⟨rfl, hG, hS_s11, ha, (by omega), (by omega)⟩ rfl rfl ⟨by decide, by decide⟩ ⟨by decide, by decide⟩ (k2 := 0) (n2 := 0) rfl rfl (Nat.le_of_ble_eq_true rfl) dX12_findEnds_50 (kVM (fun s12 hS_s12 hF_s12 q9 => ?_))
          refine j_aload_n hx 0 dX12_findEnds_53 rfl ?_
          refine j_iconst hx dX12_findEnds_54 ?_
          refine j_callV hx hG (c_X12_earlier hst a 0) lk_RX12_438 ha (by decide) rfl rfl rfl rfl [.int (zI 0)] ⟨rfl, hG, hS_s12, ha, (by omega), ((by have q1 : s12 (gP G a 34) = s0 (gP G a 34) := (by rw [hF_s12 (gP G a 34) (by rw [(zr (k := 34) (t2 := 91) hG ha rfl)]; decide), e_s11, zU_ne (zne ha (zr (k := 34) (t2 := 91) hG ha rfl) (by decide)), e_s8, zU_ne (zne ha (zr (k := 34) (t2 := 91) hG ha rfl) (by decide)), e_s7, zU_ne (zne ha (zr (k := 34) (t2 := 91) hG ha rfl) (by decide)), hF_s2 (gP G a 34) (by rw [(zr (k := 34) (t2 := 91) hG ha rfl)]; decide)]); have q2 : s12 (gP G a 35) = s0 (gP G a 35) := (by rw [hF_s12 (gP G a 35) (by rw [(zr (k := 35) (t2 := 92) hG ha rfl)]; decide), e_s11, zU_ne (zne ha (zr (k := 35) (t2 := 92) hG ha rfl) (by decide)), e_s8, zU_ne (zne ha (zr (k := 35) (t2 := 92) hG ha rfl) (by decide)), e_s7, zU_ne (zne ha (zr (k := 35) (t2 := 92) hG ha rfl) (by decide)), hF_s2 (gP G a 35) (by rw [(zr (k := 35) (t2 := 92) hG ha rfl)]; decide)]); have q3 : s12 (gP G a 37) = s0 (gP G a 37) := (by rw [hF_s12 (gP G a 37) (by rw [(zr (k := 37) (t2 := 94) hG ha rfl)]; decide), e_s11, zU_ne (zne ha (zr (k := 37) (t2 := 94) hG ha rfl) (by decide)), e_s8, zU_ne (zne ha (zr (k := 37) (t2 := 94) hG ha rfl) (by decide)), e_s7, zU_ne (zne ha (zr (k := 37) (t2 := 94) hG ha rfl) (by decide)), hF_s2 (gP G a 37) (by rw [(zr (k := 37) (t2 := 94) hG ha rfl)]; decide)]); rw [q1, q2, q3]; exact e1)), ((by have q1 : s12 (gP G a 49) = s2 (gP G a 49) := (by rw [hF_s12 (gP G a 49) (by rw [(zr (k := 49) (t2 := 102) hG ha rfl)]; decide), e_s11, zU_ne (zne ha (zr (k := 49) (t2 := 102) hG ha rfl) (by decide)), e_s8, zU_ne (zne ha (zr (k := 49) (t2 := 102) hG ha rfl) (by decide)), e_s7, zU_ne (zne ha (zr (k := 49) (t2 := 102) hG ha rfl) (by decide))]); have q2 : s12 (gP G a 50) = s2 (gP G a 50) := (by rw [hF_s12 (gP G a 50) (by rw [(zr (k := 50) (t2 := 103) hG ha rfl)]; decide), e_s11, zU_ne (zne ha (zr (k := 50) (t2 := 103) hG ha rfl) (by decide)), e_s8, zU_ne (zne ha (zr (k := 50) (t2 := 103) hG ha rfl) (by decide)), e_s7, zU_ne (zne ha (zr (k := 50) (t2 := 103) hG ha rfl) (by decide))]); rw [q1, q2]; exact (zCh_n hP3 (by omega))))⟩ rfl rfl ⟨by decide, by decide⟩ ⟨by decide, by decide⟩ (k2 := 0) (n2 := 0) rfl rfl (Nat.le_of_ble_eq_true rfl) dX12_findEnds_55 (kIM (fun v10 s13 hS_s13 hF_s13 q11 => ?_))
          refine j_pop hx dX12_findEnds_58 rfl ?_
          have g12 : s13 a 0 = s0 a 0 := (by rw [(zFr_g hF_s13 ha (by decide)), (zFr_g hF_s12 ha (by decide)), e_s11, zU_at (Or.inr (by decide)), e_s8, zU_at (Or.inr (by decide)), e_s7, zU_at (Or.inr (by decide)), (zFr_g hF_s2 ha (by decide))])
          have f13 := zf hS0 ha (k := 0) rfl
          have g14 : s13 a 3 = s0 a 3 := (by rw [(zFr_g hF_s13 ha (by decide)), (zFr_g hF_s12 ha (by decide)), e_s11, zU_at (Or.inr (by decide)), e_s8, zU_at (Or.inr (by decide)), e_s7, zU_at (Or.inr (by decide)), (zFr_g hF_s2 ha (by decide))])
          have f15 := zf hS0 ha (k := 3) rfl
          have g16 : s13 a 4 = s0 a 4 := (by rw [(zFr_g hF_s13 ha (by decide)), (zFr_g hF_s12 ha (by decide)), e_s11, zU_at (Or.inr (by decide)), e_s8, zU_at (Or.inr (by decide)), e_s7, zU_at (Or.inr (by decide)), (zFr_g hF_s2 ha (by decide))])
          have f17 := zf hS0 ha (k := 4) rfl
          have g18 : s13 a 5 = s0 a 5 := (by rw [(zFr_g hF_s13 ha (by decide)), (zFr_g hF_s12 ha (by decide)), e_s11, zU_at (Or.inr (by decide)), e_s8, zU_at (Or.inr (by decide)), e_s7, zU_at (Or.inr (by decide)), (zFr_g hF_s2 ha (by decide))])
          have f19 := zf hS0 ha (k := 5) rfl
          have g20 : s13 a 7 = s0 a 7 := (by rw [(zFr_g hF_s13 ha (by decide)), (zFr_g hF_s12 ha (by decide)), e_s11, zU_at (Or.inr (by decide)), e_s8, zU_at (Or.inr (by decide)), e_s7, zU_at (Or.inr (by decide)), (zFr_g hF_s2 ha (by decide))])
          have f21 := zf hS0 ha (k := 7) rfl
          have g22 : s13 a 21 = s0 a 21 := (by rw [(zFr_g hF_s13 ha (by decide)), (zFr_g hF_s12 ha (by decide)), e_s11, zU_at (Or.inr (by decide)), e_s8, zU_at (Or.inr (by decide)), e_s7, zU_at (Or.inr (by decide)), (zFr_g hF_s2 ha (by decide))])
          have f23 := zf hS0 ha (k := 21) rfl
          have g24 : s13 a 22 = s0 a 22 := (by rw [(zFr_g hF_s13 ha (by decide)), (zFr_g hF_s12 ha (by decide)), e_s11, zU_at (Or.inr (by decide)), e_s8, zU_at (Or.inr (by decide)), e_s7, zU_at (Or.inr (by decide)), (zFr_g hF_s2 ha (by decide))])
          have f25 := zf hS0 ha (k := 22) rfl
          have g26 : s13 a 23 = s0 a 23 := (by rw [(zFr_g hF_s13 ha (by decide)), (zFr_g hF_s12 ha (by decide)), e_s11, zU_at (Or.inr (by decide)), e_s8, zU_at (Or.inr (by decide)), e_s7, zU_at (Or.inr (by decide)), (zFr_g hF_s2 ha (by decide))])
          have f27 := zf hS0 ha (k := 23) rfl
          have g28 : s13 a 24 = s0 a 24 := (by rw [(zFr_g hF_s13 ha (by decide)), (zFr_g hF_s12 ha (by decide)), e_s11, zU_at (Or.inr (by decide)), e_s8, zU_at (Or.inr (by decide)), e_s7, zU_at (Or.inr (by decide)), (zFr_g hF_s2 ha (by decide))])
          have f29 := zf hS0 ha (k := 24) rfl
          have g30 : s13 a 38 = s0 a 38 := (by rw [(zFr_g hF_s13 ha (by decide)), (zFr_g hF_s12 ha (by decide)), e_s11, zU_at (Or.inr (by decide)), e_s8, zU_at (Or.inr (by decide)), e_s7, zU_at (Or.inr (by decide)), (zFr_g hF_s2 ha (by decide))])
          have f31 := zf hS0 ha (k := 38) rfl
          have g32 : s13 (gP G a 27) 488 = s0 (gP G a 27) 488 := (by rw [(zFr_g hF_s13 (zr (k := 27) (t2 := 84) hG ha rfl) (by decide)), (zFr_g hF_s12 (zr (k := 27) (t2 := 84) hG ha rfl) (by decide)), e_s11, zU_at (Or.inl (zne ha (zr (k := 27) (t2 := 84) hG ha rfl) (by decide))), e_s8, zU_at (Or.inl (zne ha (zr (k := 27) (t2 := 84) hG ha rfl) (by decide))), e_s7, zU_at (Or.inl (zne ha (zr (k := 27) (t2 := 84) hG ha rfl) (by decide))), (zFr_g hF_s2 (zr (k := 27) (t2 := 84) hG ha rfl) (by decide))])
          have g33 : zc (s13 (gP G a 27)) = zc (s0 (gP G a 27)) := by rw [hF_s13 (gP G a 27) (by rw [(zr (k := 27) (t2 := 84) hG ha rfl)]; decide), hF_s12 (gP G a 27) (by rw [(zr (k := 27) (t2 := 84) hG ha rfl)]; decide), e_s11, zU_ne (zne ha (zr (k := 27) (t2 := 84) hG ha rfl) (by decide)), e_s8, zU_ne (zne ha (zr (k := 27) (t2 := 84) hG ha rfl) (by decide)), e_s7, zU_ne (zne ha (zr (k := 27) (t2 := 84) hG ha rfl) (by decide)), hF_s2 (gP G a 27) (by rw [(zr (k := 27) (t2 := 84) hG ha rfl)]; decide)]
          have c59_14 : ∀ (m_c59_14 : Nat) (s15 : zS), 4000 - s15 a 52 < m_c59_14 → (zSK G s15) → (zFr [13, 84, 87, 95, 98, 101, 102, 103] G s13 s15) → (s15 a 0 = s13 a 0) → (s15 a 3 = s13 a 3) → (s15 a 4 = s13 a 4) → (s15 a 5 = s13 a 5) → (s15 a 7 = s13 a 7) → (s15 a 21 = s13 a 21) → (s15 a 22 = s13 a 22) → (s15 a 23 = s13 a 23) → (s15 a 24 = s13 a 24) → (s15 a 38 = s13 a 38) → (zc (s15 (gP G a 27)) = zc (s13 (gP G a 27))) → (s15 a 51 = -1 → s15 a 52 ≤ 2999) → (zCh (s15 (gP G a 49)) (s15 (gP G a 50)) (s15 a 52 + 1)) → (s15 (gP G a 27) 488 ≤ s13 (gP G a 27) 488 + s15 a 52) → JJ X E 2 G s15 0 0 [(0, .ref a)] 59 [] := by
            intro m_c59_14
            induction m_c59_14 with
            | zero => intro s15 hm_c59_14 hS_s15 hF_s15 fA18 fA19 fA20 fA21 fA22 fA23 fA24 fA25 fA26 fA27 fA28 fA29 fA30 fA31; exfalso; omega
            | succ m_c59_14 ih_c59_14 => 
              intro s15 hm_c59_14 hS_s15 hF_s15 fA18 fA19 fA20 fA21 fA22 fA23 fA24 fA25 fA26 fA27 fA28 fA29 fA30 fA31
              refine j_aload_n hx 0 dX12_findEnds_59 rfl ?_
              have f34 := zf hS_s15 ha (k := 51) rfl
              refine g13_51 hx hG ha kf_RX12_432 rfl dX12_findEnds_60 ?_
              refine j_iconst hx dX12_findEnds_63 ?_
              refine j_icmp_ne hx 155 dX12_findEnds_64 rfl (by omega) ⟨by decide, by decide⟩ (fun h35 => ?_) (fun h35 => ?_)
              · skip
                refine j_aload_n hx 0 dX12_findEnds_155 rfl ?_
                refine j_iconst hx dX12_findEnds_156 ?_
                refine p13_54 hx hG ha kf_RX12_441 dX12_findEnds_157 ?_
                obtain ⟨s32, e_s32⟩ : ∃ z, z = zU s15 a 54 (-1) := ⟨_, rfl⟩
                rw [← e_s32]
                have hS_s32 : zSK G s32 := by rw [e_s32]; exact zSK_F hS_s15 ha rfl rfl rfl (by omega)
                refine j_iconst hx dX12_findEnds_160 ?_
                refine j_istore_n hx [(1, .int (zI 0)), (0, .ref a)] dX12_findEnds_161 (by decide) rfl ?_
                have g37 : s32 a 0 = s15 a 0 := (by rw [e_s32, zU_at (Or.inr (by decide))])
                have f38 := zf hS_s15 ha (k := 0) rfl
                have g39 : s32 a 3 = s15 a 3 := (by rw [e_s32, zU_at (Or.inr (by decide))])
                have f40 := zf hS_s15 ha (k := 3) rfl
                have g41 : s32 a 4 = s15 a 4 := (by rw [e_s32, zU_at (Or.inr (by decide))])
                have f42 := zf hS_s15 ha (k := 4) rfl
                have g43 : s32 a 5 = s15 a 5 := (by rw [e_s32, zU_at (Or.inr (by decide))])
                have f44 := zf hS_s15 ha (k := 5) rfl
                have g45 : s32 a 7 = s15 a 7 := (by rw [e_s32, zU_at (Or.inr (by decide))])
                have f46 := zf hS_s15 ha (k := 7) rfl
                have g47 : s32 a 21 = s15 a 21 := (by rw [e_s32, zU_at (Or.inr (by decide))])
                have f48 := zf hS_s15 ha (k := 21) rfl
                have g49 : s32 a 22 = s15 a 22 := (by rw [e_s32, zU_at (Or.inr (by decide))])
                have f50 := zf hS_s15 ha (k := 22) rfl
                have g51 : s32 a 23 = s15 a 23 := (by rw [e_s32, zU_at (Or.inr (by decide))])
                have f52 := zf hS_s15 ha (k := 23) rfl
                have g53 : s32 a 24 = s15 a 24 := (by rw [e_s32, zU_at (Or.inr (by decide))])
                have f54 := zf hS_s15 ha (k := 24) rfl
                have g55 : s32 a 38 = s15 a 38 := (by rw [e_s32, zU_at (Or.inr (by decide))])
                have f56 := zf hS_s15 ha (k := 38) rfl
                have g57 : s32 a 51 = s15 a 51 := (by rw [e_s32, zU_at (Or.inr (by decide))])
                have g58 : s32 a 52 = s15 a 52 := (by rw [e_s32, zU_at (Or.inr (by decide))])
                have f59 := zf hS_s15 ha (k := 52) rfl
                have c162_33 : ∀ (m_c162_33 : Nat) (v36 : Int) (s34 : zS), 2147483648 - v36 < m_c162_33 → (0 ≤ v36 ∧ v36 ≤ 3) → (zSK G s34) → (zFr [13] G s32 s34) → (s34 a 0 = s32 a 0) → (s34 a 3 = s32 a 3) → (s34 a 4 = s32 a 4) → (s34 a 5 = s32 a 5) → (s34 a 7 = s32 a 7) → (s34 a 21 = s32 a 21) → (s34 a 22 = s32 a 22) → (s34 a 23 = s32 a 23) → (s34 a 24 = s32 a 24) → (s34 a 38 = s32 a 38) → (s34 a 51 = s32 a 51) → (s34 a 52 = s32 a 52) → JJ X E 2 G s34 0 0 [(0, .ref a), (1, .int (zI v36))] 162 [] := by
                  intro m_c162_33
                  induction m_c162_33 with
                  | zero => intro v36 s34 hm_c162_33 fA35 hS_s34 hF_s34 fA38 fA39 fA40 fA41 fA42 fA43 fA44 fA45 fA46 fA47 fA48 fA49; exfalso; omega
                  | succ m_c162_33 ih_c162_33 => 
                    intro v36 s34 hm_c162_33 fA35 hS_s34 hF_s34 fA38 fA39 fA40 fA41 fA42 fA43 fA44 fA45 fA46 fA47 fA48 fA49
                    refine j_iload_n hx 1 dX12_findEnds_162 rfl ?_
                    refine j_aload_n hx 0 dX12_findEnds_163 rfl ?_
                    have f60 := zf hS_s34 ha (k := 24) rfl
                    refine g13_24 hx hG ha kf_RX12_189 rfl dX12_findEnds_164 ?_
                    refine j_icmp_ge hx 204 dX12_findEnds_167 rfl (by omega) (by omega) (fun h61 => ?_) (fun h61 => ?_)
                    · skip
                      have g62 : zc (s34 (gP G a 27)) = zc (s15 (gP G a 27)) := by rw [hF_s34 (gP G a 27) (by rw [(zr (k := 27) (t2 := 84) hG ha rfl)]; decide), e_s32, zU_ne (zne ha (zr (k := 27) (t2 := 84) hG ha rfl) (by decide))]
                      have f63 := zf hS_s34 ha (k := 0) rfl
                      have f64 := zf hS_s34 ha (k := 3) rfl
                      have f65 := zf hS_s34 ha (k := 4) rfl
                      have f66 := zf hS_s34 ha (k := 5) rfl
                      have f67 := zf hS_s34 ha (k := 7) rfl
                      have f68 := zf hS_s34 ha (k := 21) rfl
                      have f69 := zf hS_s34 ha (k := 22) rfl
                      have f70 := zf hS_s34 ha (k := 23) rfl
                      have f71 := zf hS_s34 ha (k := 38) rfl
                      exact j_vret hx hq rfl (by decide) (by decide) dX12_findEnds_204 ⟨rfl, rfl, hS_s34, (zFr_t (zFr_u (zFr_t (zFr_t (zFr_t (zFr_u (zFr_u (zFr_u (zFr_t zFr_rf hF_s2 (by decide)) e_s7 ha (by decide)) e_s8 ha (by decide)) e_s11 ha (by decide)) hF_s12 (by decide)) hF_s13 (by decide)) hF_s15 (by decide)) e_s32 ha (by decide)) hF_s34 (by decide)), ⟨by omega, by omega, by omega, by omega, by omega, by omega, by omega, by omega, by omega, by omega, by omega⟩⟩
                    · skip
                      refine j_aload_n hx 0 dX12_findEnds_170 rfl ?_
                      have f72 := zf hS_s34 ha (k := 51) rfl
                      refine g13_51 hx hG ha kf_RX12_432 rfl dX12_findEnds_171 ?_
                      refine j_iconst hx dX12_findEnds_174 ?_
                      refine j_icmp_ne hx 204 dX12_findEnds_175 rfl (by omega) ⟨by decide, by decide⟩ (fun h73 => ?_) (fun h73 => ?_)
                      · skip
                        have g74 : zc (s34 (gP G a 27)) = zc (s15 (gP G a 27)) := by rw [hF_s34 (gP G a 27) (by rw [(zr (k := 27) (t2 := 84) hG ha rfl)]; decide), e_s32, zU_ne (zne ha (zr (k := 27) (t2 := 84) hG ha rfl) (by decide))]
                        have f75 := zf hS_s34 ha (k := 0) rfl
                        have f76 := zf hS_s34 ha (k := 3) rfl
                        have f77 := zf hS_s34 ha (k := 4) rfl
                        have f78 := zf hS_s34 ha (k := 5) rfl
                        have f79 := zf hS_s34 ha (k := 7) rfl
                        have f80 := zf hS_s34 ha (k := 21) rfl
                        have f81 := zf hS_s34 ha (k := 22) rfl
                        have f82 := zf hS_s34 ha (k := 23) rfl
                        have f83 := zf hS_s34 ha (k := 38) rfl
                        exact j_vret hx hq rfl (by decide) (by decide) dX12_findEnds_204 ⟨rfl, rfl, hS_s34, (zFr_t (zFr_u (zFr_t (zFr_t (zFr_t (zFr_u (zFr_u (zFr_u (zFr_t zFr_rf hF_s2 (by decide)) e_s7 ha (by decide)) e_s8 ha (by decide)) e_s11 ha (by decide)) hF_s12 (by decide)) hF_s13 (by decide)) hF_s15 (by decide)) e_s32 ha (by decide)) hF_s34 (by decide)), ⟨by omega, by omega, by omega, by omega, by omega, by omega, by omega, by omega, by omega, by omega, by omega⟩⟩
                      · skip
                        refine j_aload_n hx 0 dX12_findEnds_178 rfl ?_
                        refine j_aload_n hx 0 dX12_findEnds_179 rfl ?_
                        refine j_iload_n hx 1 dX12_findEnds_180 rfl ?_
                        refine j_callV hx hG (c_X12_isOut hst a v36) lk_RX12_325 ha (by decide) rfl rfl rfl rfl [.int (zI v36)] ⟨rfl, hG, hS_s34, ha, (by omega)⟩ rfl rfl ⟨by decide, by decide⟩ ⟨by decide, by decide⟩ (k2 := 0) (n2 := 0) rfl rfl (Nat.le_of_ble_eq_true rfl) dX12_findEnds_181 (kIP (fun v84 q85 => ?_))
                        have c195_50 : ∀ (v86 : Int), ((-1) ≤ v86 ∧ v86 ≤ 2) → JJ X E 2 G s34 0 0 [(0, .ref a), (1, .int (zI v36))] 195 [.int (zI v86), .ref a] := by
                          intro v86 fA51
                          refine p13_54 hx hG ha kf_RX12_441 dX12_findEnds_195 ?_
                          obtain ⟨s52, e_s52⟩ : ∃ z, z = zU s34 a 54 v86 := ⟨_, rfl⟩
                          rw [← e_s52]
                          have hS_s52 : zSK G s52 := by rw [e_s52]; exact zSK_F hS_s34 ha rfl rfl rfl (by omega)
                          refine j_iinc hx 1 [(1, .int (zI (v36 + 1))), (0, .ref a)] dX12_findEnds_198 rfl (by omega) (by decide) rfl ?_
                          refine j_goto hx 162 dX12_findEnds_201 rfl ?_
                          have g87 : s52 a 0 = s34 a 0 := (by rw [e_s52, zU_at (Or.inr (by decide))])
                          have f88 := zf hS_s34 ha (k := 0) rfl
                          have g89 : s52 a 3 = s34 a 3 := (by rw [e_s52, zU_at (Or.inr (by decide))])
                          have f90 := zf hS_s34 ha (k := 3) rfl
                          have g91 : s52 a 4 = s34 a 4 := (by rw [e_s52, zU_at (Or.inr (by decide))])
                          have f92 := zf hS_s34 ha (k := 4) rfl
                          have g93 : s52 a 5 = s34 a 5 := (by rw [e_s52, zU_at (Or.inr (by decide))])
                          have f94 := zf hS_s34 ha (k := 5) rfl
                          have g95 : s52 a 7 = s34 a 7 := (by rw [e_s52, zU_at (Or.inr (by decide))])
                          have f96 := zf hS_s34 ha (k := 7) rfl
                          have g97 : s52 a 21 = s34 a 21 := (by rw [e_s52, zU_at (Or.inr (by decide))])
                          have f98 := zf hS_s34 ha (k := 21) rfl
                          have g99 : s52 a 22 = s34 a 22 := (by rw [e_s52, zU_at (Or.inr (by decide))])
                          have f100 := zf hS_s34 ha (k := 22) rfl
                          have g101 : s52 a 23 = s34 a 23 := (by rw [e_s52, zU_at (Or.inr (by decide))])
                          have f102 := zf hS_s34 ha (k := 23) rfl
                          have g103 : s52 a 24 = s34 a 24 := (by rw [e_s52, zU_at (Or.inr (by decide))])
                          have g104 : s52 a 38 = s34 a 38 := (by rw [e_s52, zU_at (Or.inr (by decide))])
                          have f105 := zf hS_s34 ha (k := 38) rfl
                          have g106 : s52 a 51 = s34 a 51 := (by rw [e_s52, zU_at (Or.inr (by decide))])
                          have g107 : s52 a 52 = s34 a 52 := (by rw [e_s52, zU_at (Or.inr (by decide))])
                          have f108 := zf hS_s34 ha (k := 52) rfl
                          exact j_sub [1, 0] [(0, .ref a), (1, .int (zI (v36 + 1)))] rfl (ih_c162_33 (v36 + 1) s52 (by omega) (by omega) hS_s52 (zFr_u (zFr_t zFr_rf hF_s34 (by decide)) e_s52 ha (by decide)) (by omega) (by omega) (by omega) (by omega) (by omega) (by omega) (by omega) (by omega) (by omega) (by omega) (by omega) (by omega))
                        refine j_if_eq hx 194 dX12_findEnds_184 rfl (by omega) (fun h109 => ?_) (fun h109 => ?_)
                        · skip
                          refine j_iload_n hx 1 dX12_findEnds_194 rfl ?_
                          exact j_sub [0, 1] [(0, .ref a), (1, .int (zI v36))] rfl (c195_50 v36 (by omega))
                        · skip
                          refine j_aload_n hx 0 dX12_findEnds_187 rfl ?_
                          have f110 := zf hS_s34 ha (k := 54) rfl
                          refine g13_54 hx hG ha kf_RX12_441 rfl dX12_findEnds_188 ?_
                          refine j_goto hx 195 dX12_findEnds_191 rfl ?_
                          exact j_sub [0, 1] [(0, .ref a), (1, .int (zI v36))] rfl (c195_50 ((s34 a 54)) (by omega))
                exact j_sub [1, 0] [(0, .ref a), (1, .int (zI 0))] rfl (c162_33 (2147483648 * 4) 0 s32 (by omega) (by omega) hS_s32 zFr_rf (by omega) (by omega) (by omega) (by omega) (by omega) (by omega) (by omega) (by omega) (by omega) (by omega) (by omega) (by omega))
              · skip
                refine j_aload_n hx 0 dX12_findEnds_67 rfl ?_
                have f111 := zf hS_s15 ha (k := 0) rfl
                have f112 := zf hS_s15 ha (k := 3) rfl
                have f113 := zf hS_s15 ha (k := 4) rfl
                have f114 := zf hS_s15 ha (k := 5) rfl
                have f115 := zf hS_s15 ha (k := 7) rfl
                have f116 := zf hS_s15 ha (k := 21) rfl
                have f117 := zf hS_s15 ha (k := 22) rfl
                have f118 := zf hS_s15 ha (k := 23) rfl
                have f119 := zf hS_s15 ha (k := 24) rfl
                have f120 := zf hS_s15 ha (k := 38) rfl
                have f121 := zf hS_s15 ha (k := 52) rfl
                refine j_callV hx hG (c_X12_turn hst a) lk_RX12_412 ha (by decide) rfl rfl rfl rfl [] ⟨rfl, hG, hS_s15, ha, (by omega), ((by have q1 : s15 (gP G a 34) = s0 (gP G a 34) := (by rw [hF_s15 (gP G a 34) (by rw [(zr (k := 34) (t2 := 91) hG ha rfl)]; decide), hF_s13 (gP G a 34) (by rw [(zr (k := 34) (t2 := 91) hG ha rfl)]; decide), hF_s12 (gP G a 34) (by rw [(zr (k := 34) (t2 := 91) hG ha rfl)]; decide), e_s11, zU_ne (zne ha (zr (k := 34) (t2 := 91) hG ha rfl) (by decide)), e_s8, zU_ne (zne ha (zr (k := 34) (t2 := 91) hG ha rfl) (by decide)), e_s7, zU_ne (zne ha (zr (k := 34) (t2 := 91) hG ha rfl) (by decide)), hF_s2 (gP G a 34) (by rw [(zr (k := 34) (t2 := 91) hG ha rfl)]; decide)]); have q2 : s15 (gP G a 35) = s0 (gP G a 35) := (by rw [hF_s15 (gP G a 35) (by rw [(zr (k := 35) (t2 := 92) hG ha rfl)]; decide), hF_s13 (gP G a 35) (by rw [(zr (k := 35) (t2 := 92) hG ha rfl)]; decide), hF_s12 (gP G a 35) (by rw [(zr (k := 35) (t2 := 92) hG ha rfl)]; decide), e_s11, zU_ne (zne ha (zr (k := 35) (t2 := 92) hG ha rfl) (by decide)), e_s8, zU_ne (zne ha (zr (k := 35) (t2 := 92) hG ha rfl) (by decide)), e_s7, zU_ne (zne ha (zr (k := 35) (t2 := 92) hG ha rfl) (by decide)), hF_s2 (gP G a 35) (by rw [(zr (k := 35) (t2 := 92) hG ha rfl)]; decide)]); have q3 : s15 (gP G a 37) = s0 (gP G a 37) := (by rw [hF_s15 (gP G a 37) (by rw [(zr (k := 37) (t2 := 94) hG ha rfl)]; decide), hF_s13 (gP G a 37) (by rw [(zr (k := 37) (t2 := 94) hG ha rfl)]; decide), hF_s12 (gP G a 37) (by rw [(zr (k := 37) (t2 := 94) hG ha rfl)]; decide), e_s11, zU_ne (zne ha (zr (k := 37) (t2 := 94) hG ha rfl) (by decide)), e_s8, zU_ne (zne ha (zr (k := 37) (t2 := 94) hG ha rfl) (by decide)), e_s7, zU_ne (zne ha (zr (k := 37) (t2 := 94) hG ha rfl) (by decide)), hF_s2 (gP G a 37) (by rw [(zr (k := 37) (t2 := 94) hG ha rfl)]; decide)]); rw [q1, q2, q3]; exact e1)), (by omega)⟩ rfl rfl ⟨by decide, by decide⟩ ⟨by decide, by decide⟩ (k2 := 0) (n2 := 0) rfl rfl (Nat.le_of_ble_eq_true rfl) dX12_findEnds_68 (kIM (fun v122 s53 hS_s53 hF_s53 q123 => ?_))
                refine j_pop hx dX12_findEnds_71 rfl ?_
                refine j_aload_n hx 0 dX12_findEnds_72 rfl ?_
                refine j_dup hx dX12_findEnds_73 rfl ?_
                have f124 := zf hS_s53 ha (k := 52) rfl
                refine g13_52 hx hG ha kf_RX12_429 rfl dX12_findEnds_74 ?_
                refine j_iconst hx dX12_findEnds_77 ?_
                refine j_iadd hx (r := (s53 a 52) + 1) dX12_findEnds_78 (by omega) ?_
                refine p13_52 hx hG ha kf_RX12_429 dX12_findEnds_79 ?_
                obtain ⟨s54, e_s54⟩ : ∃ z, z = zU s53 a 52 ((s53 a 52) + 1) := ⟨_, rfl⟩
                rw [← e_s54]
                have hS_s54 : zSK G s54 := by rw [e_s54]; exact zSK_F hS_s53 ha rfl rfl rfl (by omega)
                refine j_aload_n hx 0 dX12_findEnds_82 rfl ?_
                refine j_aload_n hx 0 dX12_findEnds_83 rfl ?_
                refine g13_52 hx hG ha kf_RX12_429 (v := (s53 a 52) + 1) (by rw [e_s54, zU_eq]) dX12_findEnds_84 ?_
                have g125 : zc (s54 (gP G a 27)) = zc (s53 (gP G a 27)) := by rw [e_s54, zU_ne (zne ha (zr (k := 27) (t2 := 84) hG ha rfl) (by decide))]
                refine j_callV hx hG (c_X12_writes hst a ((s53 a 52) + 1)) lk_RX12_435 ha (by decide) rfl rfl rfl rfl [.int (zI ((s53 a 52) + 1))] ⟨rfl, hG, hS_s54, ha, (by omega), (by omega)⟩ rfl rfl ⟨by decide, by decide⟩ ⟨by decide, by decide⟩ (k2 := 0) (n2 := 0) rfl rfl (Nat.le_of_ble_eq_true rfl) dX12_findEnds_87 (kVM (fun s55 hS_s55 hF_s55 q127 => ?_))
                refine j_aload_n hx 0 dX12_findEnds_90 rfl ?_
                refine j_aload_n hx 0 dX12_findEnds_91 rfl ?_
                refine g13_52 hx hG ha kf_RX12_429 (v := (s53 a 52) + 1) (by rw [(zFr_g hF_s55 ha (by decide)), e_s54, zU_eq]) dX12_findEnds_92 ?_
                refine j_callV hx hG (c_X12_earlier hst a ((s53 a 52) + 1)) lk_RX12_438 ha (by decide) rfl rfl rfl rfl [.int (zI ((s53 a 52) + 1))] ⟨rfl, hG, hS_s55, ha, (by omega), ((by have q1 : s55 (gP G a 34) = s0 (gP G a 34) := (by rw [hF_s55 (gP G a 34) (by rw [(zr (k := 34) (t2 := 91) hG ha rfl)]; decide), e_s54, zU_ne (zne ha (zr (k := 34) (t2 := 91) hG ha rfl) (by decide)), hF_s53 (gP G a 34) (by rw [(zr (k := 34) (t2 := 91) hG ha rfl)]; decide), hF_s15 (gP G a 34) (by rw [(zr (k := 34) (t2 := 91) hG ha rfl)]; decide), hF_s13 (gP G a 34) (by rw [(zr (k := 34) (t2 := 91) hG ha rfl)]; decide), hF_s12 (gP G a 34) (by rw [(zr (k := 34) (t2 := 91) hG ha rfl)]; decide), e_s11, zU_ne (zne ha (zr (k := 34) (t2 := 91) hG ha rfl) (by decide)), e_s8, zU_ne (zne ha (zr (k := 34) (t2 := 91) hG ha rfl) (by decide)), e_s7, zU_ne (zne ha (zr (k := 34) (t2 := 91) hG ha rfl) (by decide)), hF_s2 (gP G a 34) (by rw [(zr (k := 34) (t2 := 91) hG ha rfl)]; decide)]); have q2 : s55 (gP G a 35) = s0 (gP G a 35) := (by rw [hF_s55 (gP G a 35) (by rw [(zr (k := 35) (t2 := 92) hG ha rfl)]; decide), e_s54, zU_ne (zne ha (zr (k := 35) (t2 := 92) hG ha rfl) (by decide)), hF_s53 (gP G a 35) (by rw [(zr (k := 35) (t2 := 92) hG ha rfl)]; decide), hF_s15 (gP G a 35) (by rw [(zr (k := 35) (t2 := 92) hG ha rfl)]; decide), hF_s13 (gP G a 35) (by rw [(zr (k := 35) (t2 := 92) hG ha rfl)]; decide), hF_s12 (gP G a 35) (by rw [(zr (k := 35) (t2 := 92) hG ha rfl)]; decide), e_s11, zU_ne (zne ha (zr (k := 35) (t2 := 92) hG ha rfl) (by decide)), e_s8, zU_ne (zne ha (zr (k := 35) (t2 := 92) hG ha rfl) (by decide)), e_s7, zU_ne (zne ha (zr (k := 35) (t2 := 92) hG ha rfl) (by decide)), hF_s2 (gP G a 35) (by rw [(zr (k := 35) (t2 := 92) hG ha rfl)]; decide)]); have q3 : s55 (gP G a 37) = s0 (gP G a 37) := (by rw [hF_s55 (gP G a 37) (by rw [(zr (k := 37) (t2 := 94) hG ha rfl)]; decide), e_s54, zU_ne (zne ha (zr (k := 37) (t2 := 94) hG ha rfl) (by decide)), hF_s53 (gP G a 37) (by rw [(zr (k := 37) (t2 := 94) hG ha rfl)]; decide), hF_s15 (gP G a 37) (by rw [(zr (k := 37) (t2 := 94) hG ha rfl)]; decide), hF_s13 (gP G a 37) (by rw [(zr (k := 37) (t2 := 94) hG ha rfl)]; decide), hF_s12 (gP G a 37) (by rw [(zr (k := 37) (t2 := 94) hG ha rfl)]; decide), e_s11, zU_ne (zne ha (zr (k := 37) (t2 := 94) hG ha rfl) (by decide)), e_s8, zU_ne (zne ha (zr (k := 37) (t2 := 94) hG ha rfl) (by decide)), e_s7, zU_ne (zne ha (zr (k := 37) (t2 := 94) hG ha rfl) (by decide)), hF_s2 (gP G a 37) (by rw [(zr (k := 37) (t2 := 94) hG ha rfl)]; decide)]); rw [q1, q2, q3]; exact e1)), ((by have q1 : s55 (gP G a 49) = s15 (gP G a 49) := (by rw [hF_s55 (gP G a 49) (by rw [(zr (k := 49) (t2 := 102) hG ha rfl)]; decide), e_s54, zU_ne (zne ha (zr (k := 49) (t2 := 102) hG ha rfl) (by decide)), hF_s53 (gP G a 49) (by rw [(zr (k := 49) (t2 := 102) hG ha rfl)]; decide)]); have q2 : s55 (gP G a 50) = s15 (gP G a 50) := (by rw [hF_s55 (gP G a 50) (by rw [(zr (k := 50) (t2 := 103) hG ha rfl)]; decide), e_s54, zU_ne (zne ha (zr (k := 50) (t2 := 103) hG ha rfl) (by decide)), hF_s53 (gP G a 50) (by rw [(zr (k := 50) (t2 := 103) hG ha rfl)]; decide)]); rw [q1, q2]; exact (zCh_n fA30 (by omega))))⟩ rfl rfl ⟨by decide, by decide⟩ ⟨by decide, by decide⟩ (k2 := 0) (n2 := 0) rfl rfl (Nat.le_of_ble_eq_true rfl) dX12_findEnds_95 (kIM (fun v128 s56 hS_s56 hF_s56 q129 => ?_))
                refine j_istore_n hx [(1, .int (zI v128)), (0, .ref a)] dX12_findEnds_98 (by decide) rfl ?_
                refine j_aload_n hx 1 dX12_findEnds_99 rfl ?_
                refine j_callV hx hG (c_X12_isOver hst a) lk_RX12_328 ha (by decide) rfl rfl rfl rfl [] ⟨rfl, hG, hS_s56, ha⟩ rfl rfl ⟨by decide, by decide⟩ ⟨by decide, by decide⟩ (k2 := 0) (n2 := 0) rfl rfl (Nat.le_of_ble_eq_true rfl) dX12_findEnds_100 (kIP (fun v130 q131 => ?_))
                have g132 : s56 a 0 = s53 a 0 := (by rw [(zFr_g hF_s56 ha (by decide)), (zFr_g hF_s55 ha (by decide)), e_s54, zU_at (Or.inr (by decide))])
                have f133 := zf hS_s53 ha (k := 0) rfl
                have g134 : s56 a 3 = s53 a 3 := (by rw [(zFr_g hF_s56 ha (by decide)), (zFr_g hF_s55 ha (by decide)), e_s54, zU_at (Or.inr (by decide))])
                have f135 := zf hS_s53 ha (k := 3) rfl
                have g136 : s56 a 4 = s53 a 4 := (by rw [(zFr_g hF_s56 ha (by decide)), (zFr_g hF_s55 ha (by decide)), e_s54, zU_at (Or.inr (by decide))])
                have f137 := zf hS_s53 ha (k := 4) rfl
                have g138 : s56 a 5 = s53 a 5 := (by rw [(zFr_g hF_s56 ha (by decide)), (zFr_g hF_s55 ha (by decide)), e_s54, zU_at (Or.inr (by decide))])
                have f139 := zf hS_s53 ha (k := 5) rfl
                have g140 : s56 a 7 = s53 a 7 := (by rw [(zFr_g hF_s56 ha (by decide)), (zFr_g hF_s55 ha (by decide)), e_s54, zU_at (Or.inr (by decide))])
                have f141 := zf hS_s53 ha (k := 7) rfl
                have g142 : s56 a 21 = s53 a 21 := (by rw [(zFr_g hF_s56 ha (by decide)), (zFr_g hF_s55 ha (by decide)), e_s54, zU_at (Or.inr (by decide))])
                have f143 := zf hS_s53 ha (k := 21) rfl
                have g144 : s56 a 22 = s53 a 22 := (by rw [(zFr_g hF_s56 ha (by decide)), (zFr_g hF_s55 ha (by decide)), e_s54, zU_at (Or.inr (by decide))])
                have f145 := zf hS_s53 ha (k := 22) rfl
                have g146 : s56 a 23 = s53 a 23 := (by rw [(zFr_g hF_s56 ha (by decide)), (zFr_g hF_s55 ha (by decide)), e_s54, zU_at (Or.inr (by decide))])
                have f147 := zf hS_s53 ha (k := 23) rfl
                have g148 : s56 a 24 = s53 a 24 := (by rw [(zFr_g hF_s56 ha (by decide)), (zFr_g hF_s55 ha (by decide)), e_s54, zU_at (Or.inr (by decide))])
                have f149 := zf hS_s53 ha (k := 24) rfl
                have g150 : s56 a 38 = s53 a 38 := (by rw [(zFr_g hF_s56 ha (by decide)), (zFr_g hF_s55 ha (by decide)), e_s54, zU_at (Or.inr (by decide))])
                have f151 := zf hS_s53 ha (k := 38) rfl
                have g152 : s56 a 52 = (s53 a 52) + 1 := (by rw [(zFr_g hF_s56 ha (by decide)), (zFr_g hF_s55 ha (by decide)), e_s54, zU_eq])
                have c152_57 : ∀ (s58 : zS), (zSK G s58) → (zFr [13] G s56 s58) → (s58 a 0 = s56 a 0) → (s58 a 3 = s56 a 3) → (s58 a 4 = s56 a 4) → (s58 a 5 = s56 a 5) → (s58 a 7 = s56 a 7) → (s58 a 21 = s56 a 21) → (s58 a 22 = s56 a 22) → (s58 a 23 = s56 a 23) → (s58 a 24 = s56 a 24) → (s58 a 38 = s56 a 38) → (s58 a 52 = s56 a 52) → JJ X E 2 G s58 0 0 [(0, .ref a)] 152 [] := by
                  intro s58 hS_s58 hF_s58 fA61 fA62 fA63 fA64 fA65 fA66 fA67 fA68 fA69 fA70 fA71
                  refine j_goto hx 59 dX12_findEnds_152 rfl ?_
                  have f153 := zf hS_s58 ha (k := 52) rfl
                  have f154 := zf hS_s58 ha (k := 0) rfl
                  have f155 := zf hS_s58 ha (k := 3) rfl
                  have f156 := zf hS_s58 ha (k := 4) rfl
                  have f157 := zf hS_s58 ha (k := 5) rfl
                  have f158 := zf hS_s58 ha (k := 7) rfl
                  have f159 := zf hS_s58 ha (k := 21) rfl
                  have f160 := zf hS_s58 ha (k := 22) rfl
                  have f161 := zf hS_s58 ha (k := 23) rfl
                  have f162 := zf hS_s58 ha (k := 24) rfl
                  have f163 := zf hS_s58 ha (k := 38) rfl
                  have g164 : zc (s58 (gP G a 27)) = zc (s53 (gP G a 27)) := by rw [hF_s58 (gP G a 27) (by rw [(zr (k := 27) (t2 := 84) hG ha rfl)]; decide), hF_s56 (gP G a 27) (by rw [(zr (k := 27) (t2 := 84) hG ha rfl)]; decide), hF_s55 (gP G a 27) (by rw [(zr (k := 27) (t2 := 84) hG ha rfl)]; decide), e_s54, zU_ne (zne ha (zr (k := 27) (t2 := 84) hG ha rfl) (by decide))]
                  have f165 := zf hS_s58 ha (k := 51) rfl
                  have g166 : s58 (gP G a 27) 488 = s53 (gP G a 27) 488 := (by rw [(zFr_g hF_s58 (zr (k := 27) (t2 := 84) hG ha rfl) (by decide)), (zFr_g hF_s56 (zr (k := 27) (t2 := 84) hG ha rfl) (by decide)), (zFr_g hF_s55 (zr (k := 27) (t2 := 84) hG ha rfl) (by decide)), e_s54, zU_at (Or.inl (zne ha (zr (k := 27) (t2 := 84) hG ha rfl) (by decide)))])
                  exact j_sub [0] [(0, .ref a)] rfl (ih_c59_14 s58 (by omega) hS_s58 (zFr_t (zFr_t (zFr_t (zFr_u (zFr_t (zFr_t zFr_rf hF_s15 (by decide)) hF_s53 (by decide)) e_s54 ha (by decide)) hF_s55 (by decide)) hF_s56 (by decide)) hF_s58 (by decide)) (by omega) (by omega) (by omega) (by omega) (by omega) (by omega) (by omega) (by omega) (by omega) (by omega) (by omega) (by omega) (by have q1 : s58 (gP G a 49) = s56 (gP G a 49) := (by rw [hF_s58 (gP G a 49) (by rw [(zr (k := 49) (t2 := 102) hG ha rfl)]; decide)]); have q2 : s58 (gP G a 50) = s56 (gP G a 50) := (by rw [hF_s58 (gP G a 50) (by rw [(zr (k := 50) (t2 := 103) hG ha rfl)]; decide)]); rw [q1, q2]; exact (zCh_n q129.2 (by omega))) (by omega))
                refine j_if_eq hx 114 dX12_findEnds_103 rfl (by omega) (fun h167 => ?_) (fun h167 => ?_)
                · skip
                  refine j_iload_n hx 0 dX12_findEnds_114 rfl ?_
                  refine j_iconst hx dX12_findEnds_115 ?_
                  refine j_icmp_eq hx 137 dX12_findEnds_116 rfl (by omega) ⟨by decide, by decide⟩ (fun h168 => ?_) (fun h168 => ?_)
                  · skip
                    refine j_aload_n hx 1 dX12_findEnds_137 rfl ?_
                    refine g13_52 hx hG ha kf_RX12_429 (v := (s53 a 52) + 1) (by rw [(zFr_g hF_s56 ha (by decide)), (zFr_g hF_s55 ha (by decide)), e_s54, zU_eq]) dX12_findEnds_138 ?_
                    refine j_sipush hx dX12_findEnds_141 rfl ?_
                    refine j_icmp_ne hx 152 dX12_findEnds_144 rfl (by omega) ⟨by decide, by decide⟩ (fun h169 => ?_) (fun h169 => ?_)
                    · skip
                      exact j_sub [1] [(0, .ref a)] rfl (c152_57 s56 hS_s56 zFr_rf (by omega) (by omega) (by omega) (by omega) (by omega) (by omega) (by omega) (by omega) (by omega) (by omega) (by omega))
                    · skip
                      refine j_aload_n hx 1 dX12_findEnds_147 rfl ?_
                      refine j_iconst hx dX12_findEnds_148 ?_
                      refine p13_51 hx hG ha kf_RX12_432 dX12_findEnds_149 ?_
                      obtain ⟨s72, e_s72⟩ : ∃ z, z = zU s56 a 51 0 := ⟨_, rfl⟩
                      rw [← e_s72]
                      have hS_s72 : zSK G s72 := by rw [e_s72]; exact zSK_F hS_s56 ha rfl rfl rfl (by omega)
                      have g170 : s72 a 0 = s53 a 0 := (by rw [e_s72, zU_at (Or.inr (by decide)), (zFr_g hF_s56 ha (by decide)), (zFr_g hF_s55 ha (by decide)), e_s54, zU_at (Or.inr (by decide))])
                      have g171 : s72 a 3 = s53 a 3 := (by rw [e_s72, zU_at (Or.inr (by decide)), (zFr_g hF_s56 ha (by decide)), (zFr_g hF_s55 ha (by decide)), e_s54, zU_at (Or.inr (by decide))])
                      have g172 : s72 a 4 = s53 a 4 := (by rw [e_s72, zU_at (Or.inr (by decide)), (zFr_g hF_s56 ha (by decide)), (zFr_g hF_s55 ha (by decide)), e_s54, zU_at (Or.inr (by decide))])
                      have g173 : s72 a 5 = s53 a 5 := (by rw [e_s72, zU_at (Or.inr (by decide)), (zFr_g hF_s56 ha (by decide)), (zFr_g hF_s55 ha (by decide)), e_s54, zU_at (Or.inr (by decide))])
                      have g174 : s72 a 7 = s53 a 7 := (by rw [e_s72, zU_at (Or.inr (by decide)), (zFr_g hF_s56 ha (by decide)), (zFr_g hF_s55 ha (by decide)), e_s54, zU_at (Or.inr (by decide))])
                      have g175 : s72 a 21 = s53 a 21 := (by rw [e_s72, zU_at (Or.inr (by decide)), (zFr_g hF_s56 ha (by decide)), (zFr_g hF_s55 ha (by decide)), e_s54, zU_at (Or.inr (by decide))])
                      have g176 : s72 a 22 = s53 a 22 := (by rw [e_s72, zU_at (Or.inr (by decide)), (zFr_g hF_s56 ha (by decide)), (zFr_g hF_s55 ha (by decide)), e_s54, zU_at (Or.inr (by decide))])
                      have g177 : s72 a 23 = s53 a 23 := (by rw [e_s72, zU_at (Or.inr (by decide)), (zFr_g hF_s56 ha (by decide)), (zFr_g hF_s55 ha (by decide)), e_s54, zU_at (Or.inr (by decide))])
                      have g178 : s72 a 24 = s53 a 24 := (by rw [e_s72, zU_at (Or.inr (by decide)), (zFr_g hF_s56 ha (by decide)), (zFr_g hF_s55 ha (by decide)), e_s54, zU_at (Or.inr (by decide))])
                      have g179 : s72 a 38 = s53 a 38 := (by rw [e_s72, zU_at (Or.inr (by decide)), (zFr_g hF_s56 ha (by decide)), (zFr_g hF_s55 ha (by decide)), e_s54, zU_at (Or.inr (by decide))])
                      have g180 : s72 a 52 = (s53 a 52) + 1 := (by rw [e_s72, zU_at (Or.inr (by decide)), (zFr_g hF_s56 ha (by decide)), (zFr_g hF_s55 ha (by decide)), e_s54, zU_eq])
                      exact j_sub [1] [(0, .ref a)] rfl (c152_57 s72 hS_s72 (zFr_u zFr_rf e_s72 ha (by decide)) (by omega) (by omega) (by omega) (by omega) (by omega) (by omega) (by omega) (by omega) (by omega) (by omega) (by omega))
                  · skip
                    refine j_aload_n hx 1 dX12_findEnds_119 rfl ?_
                    refine j_iconst hx dX12_findEnds_120 ?_
                    refine p13_51 hx hG ha kf_RX12_432 dX12_findEnds_121 ?_
                    obtain ⟨s73, e_s73⟩ : ∃ z, z = zU s56 a 51 2 := ⟨_, rfl⟩
                    rw [← e_s73]
                    have hS_s73 : zSK G s73 := by rw [e_s73]; exact zSK_F hS_s56 ha rfl rfl rfl (by omega)
                    refine j_aload_n hx 1 dX12_findEnds_124 rfl ?_
                    refine j_aload_n hx 1 dX12_findEnds_125 rfl ?_
                    refine g13_52 hx hG ha kf_RX12_429 (v := (s53 a 52) + 1) (by rw [e_s73, zU_at (Or.inr (by decide)), (zFr_g hF_s56 ha (by decide)), (zFr_g hF_s55 ha (by decide)), e_s54, zU_eq]) dX12_findEnds_126 ?_
                    refine j_iload_n hx 0 dX12_findEnds_129 rfl ?_
                    refine j_isub hx (r := (s53 a 52) - v128 + 1) dX12_findEnds_130 (by omega) ?_
                    refine p13_53 hx hG ha kf_RX12_426 dX12_findEnds_131 ?_
                    obtain ⟨s74, e_s74⟩ : ∃ z, z = zU s73 a 53 ((s53 a 52) - v128 + 1) := ⟨_, rfl⟩
                    rw [← e_s74]
                    have hS_s74 : zSK G s74 := by rw [e_s74]; exact zSK_F hS_s73 ha rfl rfl rfl (by omega)
                    refine j_goto hx 152 dX12_findEnds_134 rfl ?_
                    have g181 : s74 a 0 = s53 a 0 := (by rw [e_s74, zU_at (Or.inr (by decide)), e_s73, zU_at (Or.inr (by decide)), (zFr_g hF_s56 ha (by decide)), (zFr_g hF_s55 ha (by decide)), e_s54, zU_at (Or.inr (by decide))])
                    have g182 : s74 a 3 = s53 a 3 := (by rw [e_s74, zU_at (Or.inr (by decide)), e_s73, zU_at (Or.inr (by decide)), (zFr_g hF_s56 ha (by decide)), (zFr_g hF_s55 ha (by decide)), e_s54, zU_at (Or.inr (by decide))])
                    have g183 : s74 a 4 = s53 a 4 := (by rw [e_s74, zU_at (Or.inr (by decide)), e_s73, zU_at (Or.inr (by decide)), (zFr_g hF_s56 ha (by decide)), (zFr_g hF_s55 ha (by decide)), e_s54, zU_at (Or.inr (by decide))])
                    have g184 : s74 a 5 = s53 a 5 := (by rw [e_s74, zU_at (Or.inr (by decide)), e_s73, zU_at (Or.inr (by decide)), (zFr_g hF_s56 ha (by decide)), (zFr_g hF_s55 ha (by decide)), e_s54, zU_at (Or.inr (by decide))])
                    have g185 : s74 a 7 = s53 a 7 := (by rw [e_s74, zU_at (Or.inr (by decide)), e_s73, zU_at (Or.inr (by decide)), (zFr_g hF_s56 ha (by decide)), (zFr_g hF_s55 ha (by decide)), e_s54, zU_at (Or.inr (by decide))])
                    have g186 : s74 a 21 = s53 a 21 := (by rw [e_s74, zU_at (Or.inr (by decide)), e_s73, zU_at (Or.inr (by decide)), (zFr_g hF_s56 ha (by decide)), (zFr_g hF_s55 ha (by decide)), e_s54, zU_at (Or.inr (by decide))])
                    have g187 : s74 a 22 = s53 a 22 := (by rw [e_s74, zU_at (Or.inr (by decide)), e_s73, zU_at (Or.inr (by decide)), (zFr_g hF_s56 ha (by decide)), (zFr_g hF_s55 ha (by decide)), e_s54, zU_at (Or.inr (by decide))])
                    have g188 : s74 a 23 = s53 a 23 := (by rw [e_s74, zU_at (Or.inr (by decide)), e_s73, zU_at (Or.inr (by decide)), (zFr_g hF_s56 ha (by decide)), (zFr_g hF_s55 ha (by decide)), e_s54, zU_at (Or.inr (by decide))])
                    have g189 : s74 a 24 = s53 a 24 := (by rw [e_s74, zU_at (Or.inr (by decide)), e_s73, zU_at (Or.inr (by decide)), (zFr_g hF_s56 ha (by decide)), (zFr_g hF_s55 ha (by decide)), e_s54, zU_at (Or.inr (by decide))])
                    have g190 : s74 a 38 = s53 a 38 := (by rw [e_s74, zU_at (Or.inr (by decide)), e_s73, zU_at (Or.inr (by decide)), (zFr_g hF_s56 ha (by decide)), (zFr_g hF_s55 ha (by decide)), e_s54, zU_at (Or.inr (by decide))])
                    have g191 : s74 a 52 = (s53 a 52) + 1 := (by rw [e_s74, zU_at (Or.inr (by decide)), e_s73, zU_at (Or.inr (by decide)), (zFr_g hF_s56 ha (by decide)), (zFr_g hF_s55 ha (by decide)), e_s54, zU_eq])
                    exact j_sub [1] [(0, .ref a)] rfl (c152_57 s74 hS_s74 (zFr_u (zFr_u zFr_rf e_s73 ha (by decide)) e_s74 ha (by decide)) (by omega) (by omega) (by omega) (by omega) (by omega) (by omega) (by omega) (by omega) (by omega) (by omega) (by omega))
                · skip
                  refine j_aload_n hx 1 dX12_findEnds_106 rfl ?_
                  refine j_iconst hx dX12_findEnds_107 ?_
                  refine p13_51 hx hG ha kf_RX12_432 dX12_findEnds_108 ?_
                  obtain ⟨s75, e_s75⟩ : ∃ z, z = zU s56 a 51 1 := ⟨_, rfl⟩
                  rw [← e_s75]
                  have hS_s75 : zSK G s75 := by rw [e_s75]; exact zSK_F hS_s56 ha rfl rfl rfl (by omega)
                  refine j_goto hx 152 dX12_findEnds_111 rfl ?_
                  have g192 : s75 a 0 = s53 a 0 := (by rw [e_s75, zU_at (Or.inr (by decide)), (zFr_g hF_s56 ha (by decide)), (zFr_g hF_s55 ha (by decide)), e_s54, zU_at (Or.inr (by decide))])
                  have g193 : s75 a 3 = s53 a 3 := (by rw [e_s75, zU_at (Or.inr (by decide)), (zFr_g hF_s56 ha (by decide)), (zFr_g hF_s55 ha (by decide)), e_s54, zU_at (Or.inr (by decide))])
                  have g194 : s75 a 4 = s53 a 4 := (by rw [e_s75, zU_at (Or.inr (by decide)), (zFr_g hF_s56 ha (by decide)), (zFr_g hF_s55 ha (by decide)), e_s54, zU_at (Or.inr (by decide))])
                  have g195 : s75 a 5 = s53 a 5 := (by rw [e_s75, zU_at (Or.inr (by decide)), (zFr_g hF_s56 ha (by decide)), (zFr_g hF_s55 ha (by decide)), e_s54, zU_at (Or.inr (by decide))])
                  have g196 : s75 a 7 = s53 a 7 := (by rw [e_s75, zU_at (Or.inr (by decide)), (zFr_g hF_s56 ha (by decide)), (zFr_g hF_s55 ha (by decide)), e_s54, zU_at (Or.inr (by decide))])
                  have g197 : s75 a 21 = s53 a 21 := (by rw [e_s75, zU_at (Or.inr (by decide)), (zFr_g hF_s56 ha (by decide)), (zFr_g hF_s55 ha (by decide)), e_s54, zU_at (Or.inr (by decide))])
                  have g198 : s75 a 22 = s53 a 22 := (by rw [e_s75, zU_at (Or.inr (by decide)), (zFr_g hF_s56 ha (by decide)), (zFr_g hF_s55 ha (by decide)), e_s54, zU_at (Or.inr (by decide))])
                  have g199 : s75 a 23 = s53 a 23 := (by rw [e_s75, zU_at (Or.inr (by decide)), (zFr_g hF_s56 ha (by decide)), (zFr_g hF_s55 ha (by decide)), e_s54, zU_at (Or.inr (by decide))])
                  have g200 : s75 a 24 = s53 a 24 := (by rw [e_s75, zU_at (Or.inr (by decide)), (zFr_g hF_s56 ha (by decide)), (zFr_g hF_s55 ha (by decide)), e_s54, zU_at (Or.inr (by decide))])
                  have g201 : s75 a 38 = s53 a 38 := (by rw [e_s75, zU_at (Or.inr (by decide)), (zFr_g hF_s56 ha (by decide)), (zFr_g hF_s55 ha (by decide)), e_s54, zU_at (Or.inr (by decide))])
                  have g202 : s75 a 52 = (s53 a 52) + 1 := (by rw [e_s75, zU_at (Or.inr (by decide)), (zFr_g hF_s56 ha (by decide)), (zFr_g hF_s55 ha (by decide)), e_s54, zU_eq])
                  exact j_sub [1] [(0, .ref a)] rfl (c152_57 s75 hS_s75 (zFr_u zFr_rf e_s75 ha (by decide)) (by omega) (by omega) (by omega) (by omega) (by omega) (by omega) (by omega) (by omega) (by omega) (by omega) (by omega))
          have g203 : s13 a 52 = 0 := (by rw [(zFr_g hF_s13 ha (by decide)), (zFr_g hF_s12 ha (by decide)), e_s11, zU_at (Or.inr (by decide)), e_s8, zU_eq])
          have g204 : s13 a 51 = v6 := (by rw [(zFr_g hF_s13 ha (by decide)), (zFr_g hF_s12 ha (by decide)), e_s11, zU_eq])
          exact j_sub [0] [(0, .ref a)] rfl (c59_14 (2147483648 * 4) s13 (by omega) hS_s13 zFr_rf (by omega) (by omega) (by omega) (by omega) (by omega) (by omega) (by omega) (by omega) (by omega) (by omega) (by omega) (by omega) (zCh_n q11.2 (by omega)) (by omega))
        refine j_if_eq hx 44 dX12_findEnds_37 rfl (by omega) (fun h205 => ?_) (fun h205 => ?_)
        · skip
          refine j_iconst hx dX12_findEnds_44 ?_
          exact j_sub [0] [(0, .ref a)] rfl (c45_9 (-1) (by omega))
        · skip
          refine j_iconst hx dX12_findEnds_40 ?_
          refine j_goto hx 45 dX12_findEnds_41 rfl ?_
          exact j_sub [0] [(0, .ref a)] rfl (c45_9 1 (by omega))
      · skip
        refine j_aload_n hx 0 dX12_findEnds_9 rfl ?_
        refine g13_50 hx hG ha kf_RX12_115 dX12_findEnds_10 ?_
        refine j_iload_n hx 1 dX12_findEnds_13 rfl ?_
        refine j_iconst hx dX12_findEnds_14 ?_
        refine j_iast hx hG (zr (k := 50) (t2 := 103) hG ha rfl) (by decide) rfl (zlen hG (zr (k := 50) (t2 := 103) hG ha rfl) (n := 8192) rfl rfl) (by omega) (by omega) (j := (v1).toNat) rfl dX12_findEnds_15 ?_
        obtain ⟨s76, e_s76⟩ : ∃ z, z = zU s2 (gP G a 50) (v1).toNat (-1) := ⟨_, rfl⟩
        rw [← e_s76]
        have hS_s76 : zSK G s76 := by rw [e_s76]; exact zSK_A hS_s2 (zr (k := 50) (t2 := 103) hG ha rfl) rfl rfl rfl (by omega)
        refine j_iinc hx 1 [(1, .int (zI (v1 + 1))), (0, .ref a)] dX12_findEnds_16 rfl (by omega) (by decide) rfl ?_
        refine j_goto hx 2 dX12_findEnds_19 rfl ?_
        exact j_sub [1, 0] [(0, .ref a), (1, .int (zI (v1 + 1)))] rfl (ih_c2_1 (v1 + 1) s76 (by omega) (by omega) hS_s76 (zFr_u (zFr_t zFr_rf hF_s2 (by decide)) e_s76 (zr (k := 50) (t2 := 103) hG ha rfl) (by decide)) (zAll_s hB1 e_s76 (by omega)))
  exact j_sub [1, 0] [(0, .ref a), (1, .int (zI 0))] rfl (c2_1 (2147483648 * 4) 0 s0 (by omega) (by omega) hS0 zFr_rf (fun j hj => absurd hj (by omega)))

set_option maxHeartbeats 1200000 in
set_option maxRecDepth 20000 in
theorem c_X12_back {E : zE} {l : Launch} (hst : l.stackTraces = false) (a : Nat) : Con E l yX12_back cX12_back 2 none { frames := 0, cells := 0, slots := 0, locals := 0 } (fun G s vs => vs = [.ref a] ∧ zGK G ∧ zSK G s ∧ (gT G a = 13)) (fun G s _ => pV (fun G2 s2 => G2 = G ∧ zSK G s2 ∧ zFr [84, 87] G s s2 ∧ zc (s2 (gP G a 27)) = zc (s (gP G a 46)) ∧ s2 (gP G a 27) 488 = s (gP G a 46) 488)) := by
  refine Con.mk hst (by decide) (fun G s vs h => by rw [h.1]; exact Nat.le_of_ble_eq_true rfl) ?_
  rintro X G s0 vs ⟨rfl, hG, hS0, ha⟩ rfl hx hq
  show JJ X E 2 G s0 0 0 [(0, .ref a)] 0 []
  refine j_iconst hx dX12_back_0 ?_
  refine j_istore_n hx [(1, .int (zI 0)), (0, .ref a)] dX12_back_1 (by decide) rfl ?_
  have c2_1 : ∀ (m_c2_1 : Nat) (v1 : Int) (s2 : zS), 2147483648 - v1 < m_c2_1 → (0 ≤ v1 ∧ v1 ≤ 515) → (zSK G s2) → (zFr [84] G s0 s2) → (zEq (v1).toNat (s2 (gP G a 27)) (s0 (gP G a 46))) → JJ X E 2 G s2 0 0 [(0, .ref a), (1, .int (zI v1))] 2 [] := by
    intro m_c2_1
    induction m_c2_1 with
    | zero => intro v1 s2 hm_c2_1 fA3 hS_s2 hF_s2 hE1; exfalso; omega
    | succ m_c2_1 ih_c2_1 => 
      intro v1 s2 hm_c2_1 fA3 hS_s2 hF_s2 hE1
      refine j_iload_n hx 1 dX12_back_2 rfl ?_
      refine j_sipush hx dX12_back_3 rfl ?_
      refine j_icmp_ge hx 27 dX12_back_6 rfl (by omega) ⟨by decide, by decide⟩ (fun h2 => ?_) (fun h2 => ?_)
      · skip
        have z3 := zEq_zc hE1 (by omega)
        refine j_iconst hx dX12_back_27 ?_
        refine j_istore_n hx [(1, .int (zI 0)), (0, .ref a)] dX12_back_28 (by decide) rfl ?_
        have c29_7 : ∀ (m_c29_7 : Nat) (v4 : Int) (s8 : zS), 2147483648 - v4 < m_c29_7 → (0 ≤ v4 ∧ v4 ≤ 5) → (zSK G s8) → (zFr [87] G s2 s8) → JJ X E 2 G s8 0 0 [(0, .ref a), (1, .int (zI v4))] 29 [] := by
          intro m_c29_7
          induction m_c29_7 with
          | zero => intro v4 s8 hm_c29_7 fA9 hS_s8 hF_s8; exfalso; omega
          | succ m_c29_7 ih_c29_7 => 
            intro v4 s8 hm_c29_7 fA9 hS_s8 hF_s8
            refine j_iload_n hx 1 dX12_back_29 rfl ?_
            refine j_iconst hx dX12_back_30 ?_
            refine j_icmp_ge hx 52 dX12_back_31 rfl (by omega) ⟨by decide, by decide⟩ (fun h5 => ?_) (fun h5 => ?_)
            · skip
              have g6 : zc (s8 (gP G a 27)) = zc (s2 (gP G a 27)) := by rw [hF_s8 (gP G a 27) (by rw [(zr (k := 27) (t2 := 84) hG ha rfl)]; decide)]
              have g7 : s8 (gP G a 27) 488 = s2 (gP G a 27) 488 := (by rw [(zFr_g hF_s8 (zr (k := 27) (t2 := 84) hG ha rfl) (by decide))])
              exact j_vret hx hq rfl (by decide) (by decide) dX12_back_52 ⟨rfl, rfl, hS_s8, (zFr_t (zFr_t zFr_rf hF_s2 (by decide)) hF_s8 (by decide)), ⟨by omega, by omega⟩⟩
            · skip
              refine j_aload_n hx 0 dX12_back_34 rfl ?_
              refine g13_30 hx hG ha kf_RX12_65 dX12_back_35 ?_
              refine j_iload_n hx 1 dX12_back_38 rfl ?_
              refine j_aload_n hx 0 dX12_back_39 rfl ?_
              refine g13_47 hx hG ha kf_RX12_105 dX12_back_40 ?_
              refine j_iload_n hx 1 dX12_back_43 rfl ?_
              have f8 := zaI (j := (v4).toNat) hS0 (zr (k := 47) (t2 := 100) hG ha rfl) rfl (zlen hG (zr (k := 47) (t2 := 100) hG ha rfl) (n := 5) rfl rfl) (show 0 ≤ v4 by omega) (by omega) rfl
              refine j_iald hx hG (zr (k := 47) (t2 := 100) hG ha rfl) (by decide) rfl (zlen hG (zr (k := 47) (t2 := 100) hG ha rfl) (n := 5) rfl rfl) (by omega) (by omega) (j := (v4).toNat) rfl (v := (s0 (gP G a 47) (v4).toNat)) (by rw [(zFr_g hF_s8 (zr (k := 47) (t2 := 100) hG ha rfl) (by decide)), (zFr_g hF_s2 (zr (k := 47) (t2 := 100) hG ha rfl) (by decide))]) dX12_back_44 ?_
              refine j_iast hx hG (zr (k := 30) (t2 := 87) hG ha rfl) (by decide) rfl (zlen hG (zr (k := 30) (t2 := 87) hG ha rfl) (n := 5) rfl rfl) (by omega) (by omega) (j := (v4).toNat) rfl dX12_back_45 ?_
              obtain ⟨s12, e_s12⟩ : ∃ z, z = zU s8 (gP G a 30) (v4).toNat ((s0 (gP G a 47) (v4).toNat)) := ⟨_, rfl⟩
              rw [← e_s12]
              have hS_s12 : zSK G s12 := by rw [e_s12]; exact zSK_A hS_s8 (zr (k := 30) (t2 := 87) hG ha rfl) rfl rfl rfl (by omega)
              refine j_iinc hx 1 [(1, .int (zI (v4 + 1))), (0, .ref a)] dX12_back_46 rfl (by omega) (by decide) rfl ?_
              refine j_goto hx 29 dX12_back_49 rfl ?_
              exact j_sub [1, 0] [(0, .ref a), (1, .int (zI (v4 + 1)))] rfl (ih_c29_7 (v4 + 1) s12 (by omega) (by omega) hS_s12 (zFr_u (zFr_t zFr_rf hF_s8 (by decide)) e_s12 (zr (k := 30) (t2 := 87) hG ha rfl) (by decide)))
        exact j_sub [1, 0] [(0, .ref a), (1, .int (zI 0))] rfl (c29_7 (2147483648 * 4) 0 s2 (by omega) (by omega) hS_s2 zFr_rf)
      · skip
        refine j_aload_n hx 0 dX12_back_9 rfl ?_
        refine g13_27 hx hG ha kf_RX12_56 dX12_back_10 ?_
        refine j_iload_n hx 1 dX12_back_13 rfl ?_
        refine j_aload_n hx 0 dX12_back_14 rfl ?_
        refine g13_46 hx hG ha kf_RX12_102 dX12_back_15 ?_
        refine j_iload_n hx 1 dX12_back_18 rfl ?_
        have f9 := zah (j := (v1).toNat) hS0 (zr (k := 46) (t2 := 99) hG ha rfl) (fun k => ⟨_, rfl, (axS_h _).1, (axS_h _).2.1⟩) (zlen hG (zr (k := 46) (t2 := 99) hG ha rfl) (n := 515) rfl rfl) (show 0 ≤ v1 by omega) (by omega) rfl
        refine j_iald hx hG (zr (k := 46) (t2 := 99) hG ha rfl) (by decide) rfl (zlen hG (zr (k := 46) (t2 := 99) hG ha rfl) (n := 515) rfl rfl) (by omega) (by omega) (j := (v1).toNat) rfl (v := (s0 (gP G a 46) (v1).toNat)) (by rw [(zFr_g hF_s2 (zr (k := 46) (t2 := 99) hG ha rfl) (by decide))]) dX12_back_19 ?_
        refine j_iast hx hG (zr (k := 27) (t2 := 84) hG ha rfl) (by decide) rfl (zlen hG (zr (k := 27) (t2 := 84) hG ha rfl) (n := 515) rfl rfl) (by omega) (by omega) (j := (v1).toNat) rfl dX12_back_20 ?_
        obtain ⟨s13, e_s13⟩ : ∃ z, z = zU s2 (gP G a 27) (v1).toNat ((s0 (gP G a 46) (v1).toNat)) := ⟨_, rfl⟩
        rw [← e_s13]
        have hS_s13 : zSK G s13 := by rw [e_s13]; exact zSK_cq hS_s2 hS0 (zr (k := 27) (t2 := 84) hG ha rfl) (zr (k := 46) (t2 := 99) hG ha rfl) (fun _ => rfl) rfl (j2 := (v1).toNat) (by rfl) (by have := (zlen hG (zr (k := 46) (t2 := 99) hG ha rfl) (n := 515) rfl rfl); omega) rfl
        refine j_iinc hx 1 [(1, .int (zI (v1 + 1))), (0, .ref a)] dX12_back_21 rfl (by omega) (by decide) rfl ?_
        refine j_goto hx 2 dX12_back_24 rfl ?_
        exact j_sub [1, 0] [(0, .ref a), (1, .int (zI (v1 + 1)))] rfl (ih_c2_1 (v1 + 1) s13 (by omega) (by omega) hS_s13 (zFr_u (zFr_t zFr_rf hF_s2 (by decide)) e_s13 (zr (k := 27) (t2 := 84) hG ha rfl) (by decide)) (zEq_s hE1 e_s13 (by omega) rfl))
  exact j_sub [1, 0] [(0, .ref a), (1, .int (zI 0))] rfl (c2_1 (2147483648 * 4) 0 s0 (by omega) (by omega) hS0 zFr_rf (zEq_0 (by omega)))

theorem lk_RX12_444 : LkV RX12 444 RX12 yX12_keeps cX12_keeps 2 none 0 := ⟨km_RX12_444, ki_yX12_keeps, ks_RX12_yX12_keeps, kn_RX12, kc_yX12_keeps, rfl, by decide +kernel, by decide +kernel, by decide +kernel⟩
theorem lk_RX12_447 : LkV RX12 447 RX12 yX12_findEnds cX12_findEnds 2 none 0 := ⟨km_RX12_447, ki_yX12_findEnds, ks_RX12_yX12_findEnds, kn_RX12, kc_yX12_findEnds, rfl, by decide +kernel, by decide +kernel, by decide +kernel⟩
theorem lk_RX12_450 : LkV RX12 450 RX12 yX12_back cX12_back 2 none 0 := ⟨km_RX12_450, ki_yX12_back, ks_RX12_yX12_back, kn_RX12, kc_yX12_back, rfl, by decide +kernel, by decide +kernel, by decide +kernel⟩
set_option maxHeartbeats 1200000 in
set_option maxRecDepth 20000 in
theorem c_X12_ends {E : zE} {l : Launch} (hst : l.stackTraces = false) (a : Nat) (x1 : Int) : Con E l yX12_ends cX12_ends 2 (some .int) { frames := 7, cells := 0, slots := 0, locals := 162 } (fun G s vs => vs = [.ref a, .int (zI x1)] ∧ zGK G ∧ zSK G s ∧ (gT G a = 13) ∧ ((-2147483648) ≤ x1 ∧ x1 ≤ 2147483647) ∧ (zRva (s (gP G a 34)) (s (gP G a 35)) (s (gP G a 37))) ∧ (zc (s (gP G a 27)) ≤ 60) ∧ (s (gP G a 27) 488 ≤ 520000)) (fun G s _ => pI (fun r G2 s2 => G2 = G ∧ zSK G s2 ∧ zFr [13, 71, 84, 87, 95, 98, 99, 100, 101, 102, 103] G s s2 ∧ ((-2147483648) ≤ r ∧ r ≤ 2147483647) ∧ zc (s2 (gP G a 27)) = zc (s (gP G a 27)) ∧ s2 (gP G a 27) 488 = s (gP G a 27) 488 ∧ s2 a 3 = s a 3 ∧ s2 a 4 = s a 4 ∧ s2 a 5 = s a 5 ∧ s2 a 7 = s a 7 ∧ s2 a 21 = s a 21 ∧ s2 a 22 = s a 22 ∧ s2 a 23 = s a 23 ∧ s2 a 24 = s a 24 ∧ s2 a 38 = s a 38)) := by
  refine Con.mk hst (by decide) (fun G s vs h => by rw [h.1]; exact Nat.le_of_ble_eq_true rfl) ?_
  rintro X G s0 vs ⟨rfl, hG, hS0, ha, hx1, e0, e1, e2⟩ rfl hx hq
  show JJ X E 2 G s0 0 0 [(0, .ref a), (1, .int (zI x1))] 0 []
  refine j_aload_n hx 0 dX12_ends_0 rfl ?_
  refine j_iconst hx dX12_ends_1 ?_
  refine p13_0 hx hG ha kf_RX12_3 dX12_ends_2 ?_
  obtain ⟨s1, e_s1⟩ : ∃ z, z = zU s0 a 0 0 := ⟨_, rfl⟩
  rw [← e_s1]
  have hS_s1 : zSK G s1 := by rw [e_s1]; exact zSK_F hS0 ha rfl rfl rfl (by omega)
  refine j_aload_n hx 0 dX12_ends_5 rfl ?_
  refine j_iload_n hx 1 dX12_ends_6 rfl ?_
  refine j_iconst hx dX12_ends_7 ?_
  refine j_iconst hx dX12_ends_8 ?_
  refine j_callS hx (c_X12_within hst x1 0 3) lk_RX12_314 [.int (zI x1), .int (zI 0), .int (zI 3)] ⟨rfl, hG, hS_s1, (by omega), (by omega), (by omega)⟩ rfl rfl ⟨by decide, by decide⟩ ⟨by decide, by decide⟩ (k2 := 0) (n2 := 0) rfl rfl (Nat.le_of_ble_eq_true rfl) dX12_ends_9 (kIP (fun v1 q2 => ?_))
  refine j_iconst hx dX12_ends_12 ?_
  refine j_iconst hx dX12_ends_13 ?_
  rcases (show v1 = 0 ∨ v1 = 1 by omega) with rfl | rfl
  · skip
    have g4 : s1 a 0 = 0 := (by rw [e_s1, zU_eq])
    have g5 : s1 a 3 = s0 a 3 := (by rw [e_s1, zU_at (Or.inr (by decide))])
    have f6 := zf hS0 ha (k := 3) rfl
    have g7 : s1 a 4 = s0 a 4 := (by rw [e_s1, zU_at (Or.inr (by decide))])
    have f8 := zf hS0 ha (k := 4) rfl
    have g9 : s1 a 5 = s0 a 5 := (by rw [e_s1, zU_at (Or.inr (by decide))])
    have f10 := zf hS0 ha (k := 5) rfl
    have g11 : s1 a 7 = s0 a 7 := (by rw [e_s1, zU_at (Or.inr (by decide))])
    have f12 := zf hS0 ha (k := 7) rfl
    have g13 : s1 a 21 = s0 a 21 := (by rw [e_s1, zU_at (Or.inr (by decide))])
    have f14 := zf hS0 ha (k := 21) rfl
    have g15 : s1 a 22 = s0 a 22 := (by rw [e_s1, zU_at (Or.inr (by decide))])
    have f16 := zf hS0 ha (k := 22) rfl
    have g17 : s1 a 23 = s0 a 23 := (by rw [e_s1, zU_at (Or.inr (by decide))])
    have f18 := zf hS0 ha (k := 23) rfl
    have g19 : s1 a 24 = s0 a 24 := (by rw [e_s1, zU_at (Or.inr (by decide))])
    have f20 := zf hS0 ha (k := 24) rfl
    have g21 : s1 a 38 = s0 a 38 := (by rw [e_s1, zU_at (Or.inr (by decide))])
    have f22 := zf hS0 ha (k := 38) rfl
    have g23 : s1 a 51 = s0 a 51 := (by rw [e_s1, zU_at (Or.inr (by decide))])
    have f24 := zf hS0 ha (k := 51) rfl
    have g25 : s1 a 52 = s0 a 52 := (by rw [e_s1, zU_at (Or.inr (by decide))])
    have f26 := zf hS0 ha (k := 52) rfl
    refine j_callV hx hG (c_X12_may_f hst a 0 1 1) lk_RX12_240 ha (by decide) rfl rfl rfl rfl [.int (zI 0), .int (zI 1), .int (zI 1)] ⟨rfl, hG, hS_s1, ha, (by omega), (by omega), (by omega), (((by rw [e_s1, zU_eq]) : s1 a 0 = 0).trans (by omega))⟩ rfl rfl ⟨by decide, by decide⟩ ⟨by decide, by decide⟩ (k2 := 0) (n2 := 0) rfl rfl (Nat.le_of_ble_eq_true rfl) dX12_ends_14 (kIM (fun v27 s2 hS_s2 hF_s2 q28 => ?_))
    refine j_if_ne hx 22 dX12_ends_17 rfl (by omega) (fun h29 => absurd h29 (by omega)) (fun h29 => ?_)
    refine j_iconst hx dX12_ends_20 ?_
    have g30 : zc (s2 (gP G a 27)) = zc (s0 (gP G a 27)) := by rw [hF_s2 (gP G a 27) (by rw [(zr (k := 27) (t2 := 84) hG ha rfl)]; decide), e_s1, zU_ne (zne ha (zr (k := 27) (t2 := 84) hG ha rfl) (by decide))]
    have g31 : s2 (gP G a 27) 488 = s0 (gP G a 27) 488 := (by rw [(zFr_g hF_s2 (zr (k := 27) (t2 := 84) hG ha rfl) (by decide)), e_s1, zU_at (Or.inl (zne ha (zr (k := 27) (t2 := 84) hG ha rfl) (by decide)))])
    have f32 := zf hS_s2 ha (k := 3) rfl
    have f33 := zf hS_s2 ha (k := 4) rfl
    have f34 := zf hS_s2 ha (k := 5) rfl
    have f35 := zf hS_s2 ha (k := 7) rfl
    have f36 := zf hS_s2 ha (k := 21) rfl
    have f37 := zf hS_s2 ha (k := 22) rfl
    have f38 := zf hS_s2 ha (k := 23) rfl
    have f39 := zf hS_s2 ha (k := 24) rfl
    have f40 := zf hS_s2 ha (k := 38) rfl
    exact j_iret hx hq rfl (by decide) (by decide) dX12_ends_21 ⟨0, rfl, rfl, hS_s2, (zFr_t (zFr_u zFr_rf e_s1 ha (by decide)) hF_s2 (by decide)), ⟨(by omega), by omega, by omega, by omega, by omega, by omega, by omega, by omega, by omega, by omega, by omega, by omega⟩⟩
  · skip
    have g41 : s1 a 0 = 0 := (by rw [e_s1, zU_eq])
    refine j_callV hx hG (c_X12_may_t hst a 1 1 1) lk_RX12_240 ha (by decide) rfl rfl rfl rfl [.int (zI 1), .int (zI 1), .int (zI 1)] ⟨rfl, hG, hS_s1, ha, (by omega), (by omega), (by omega), (((by rw [e_s1, zU_eq]) : s1 a 0 = 0).trans (by omega))⟩ rfl rfl ⟨by decide, by decide⟩ ⟨by decide, by decide⟩ (k2 := 0) (n2 := 0) rfl rfl (Nat.le_of_ble_eq_true rfl) dX12_ends_14 (kIP (fun v42 q43 => ?_))
    refine j_if_ne hx 22 dX12_ends_17 rfl (by omega) (fun h44 => ?_) (fun h44 => absurd h44 (by omega))
    refine j_aload_n hx 0 dX12_ends_22 rfl ?_
    have g45 : zc (s1 (gP G a 27)) = zc (s0 (gP G a 27)) := by rw [e_s1, zU_ne (zne ha (zr (k := 27) (t2 := 84) hG ha rfl) (by decide))]
    have g46 : s1 (gP G a 27) 488 = s0 (gP G a 27) 488 := (by rw [e_s1, zU_at (Or.inl (zne ha (zr (k := 27) (t2 := 84) hG ha rfl) (by decide)))])
    refine j_callV hx hG (c_X12_keeps hst a) lk_RX12_444 ha (by decide) rfl rfl rfl rfl [] ⟨rfl, hG, hS_s1, ha⟩ rfl rfl ⟨by decide, by decide⟩ ⟨by decide, by decide⟩ (k2 := 0) (n2 := 0) rfl rfl (Nat.le_of_ble_eq_true rfl) dX12_ends_23 (kVM (fun s3 hS_s3 hF_s3 q48 => ?_))
    refine j_aload_n hx 0 dX12_ends_26 rfl ?_
    have g49 : zc (s3 (gP G a 27)) = zc (s0 (gP G a 27)) := by rw [hF_s3 (gP G a 27) (by rw [(zr (k := 27) (t2 := 84) hG ha rfl)]; decide), e_s1, zU_ne (zne ha (zr (k := 27) (t2 := 84) hG ha rfl) (by decide))]
    have g50 : s3 (gP G a 27) 488 = s0 (gP G a 27) 488 := (by rw [(zFr_g hF_s3 (zr (k := 27) (t2 := 84) hG ha rfl) (by decide)), e_s1, zU_at (Or.inl (zne ha (zr (k := 27) (t2 := 84) hG ha rfl) (by decide)))])
    have g51 : s3 a 0 = 0 := (by rw [(zFr_g hF_s3 ha (by decide)), e_s1, zU_eq])
    have g52 : s3 a 3 = s0 a 3 := (by rw [(zFr_g hF_s3 ha (by decide)), e_s1, zU_at (Or.inr (by decide))])
    have f53 := zf hS0 ha (k := 3) rfl
    have g54 : s3 a 4 = s0 a 4 := (by rw [(zFr_g hF_s3 ha (by decide)), e_s1, zU_at (Or.inr (by decide))])
    have f55 := zf hS0 ha (k := 4) rfl
    have g56 : s3 a 5 = s0 a 5 := (by rw [(zFr_g hF_s3 ha (by decide)), e_s1, zU_at (Or.inr (by decide))])
    have f57 := zf hS0 ha (k := 5) rfl
    have g58 : s3 a 7 = s0 a 7 := (by rw [(zFr_g hF_s3 ha (by decide)), e_s1, zU_at (Or.inr (by decide))])
    have f59 := zf hS0 ha (k := 7) rfl
    have g60 : s3 a 21 = s0 a 21 := (by rw [(zFr_g hF_s3 ha (by decide)), e_s1, zU_at (Or.inr (by decide))])
    have f61 := zf hS0 ha (k := 21) rfl
    have g62 : s3 a 22 = s0 a 22 := (by rw [(zFr_g hF_s3 ha (by decide)), e_s1, zU_at (Or.inr (by decide))])
    have f63 := zf hS0 ha (k := 22) rfl
    have g64 : s3 a 23 = s0 a 23 := (by rw [(zFr_g hF_s3 ha (by decide)), e_s1, zU_at (Or.inr (by decide))])
    have f65 := zf hS0 ha (k := 23) rfl
    have g66 : s3 a 24 = s0 a 24 := (by rw [(zFr_g hF_s3 ha (by decide)), e_s1, zU_at (Or.inr (by decide))])
    have f67 := zf hS0 ha (k := 24) rfl
    have g68 : s3 a 38 = s0 a 38 := (by rw [(zFr_g hF_s3 ha (by decide)), e_s1, zU_at (Or.inr (by decide))])
    have f69 := zf hS0 ha (k := 38) rfl
    refine j_callV hx hG (c_X12_findEnds hst a) lk_RX12_447 ha (by decide) rfl rfl rfl rfl [] ⟨rfl, hG, hS_s3, ha, (by omega), ((by have q1 : s3 (gP G a 34) = s0 (gP G a 34) := (by rw [hF_s3 (gP G a 34) (by rw [(zr (k := 34) (t2 := 91) hG ha rfl)]; decide), e_s1, zU_ne (zne ha (zr (k := 34) (t2 := 91) hG ha rfl) (by decide))]); have q2 : s3 (gP G a 35) = s0 (gP G a 35) := (by rw [hF_s3 (gP G a 35) (by rw [(zr (k := 35) (t2 := 92) hG ha rfl)]; decide), e_s1, zU_ne (zne ha (zr (k := 35) (t2 := 92) hG ha rfl) (by decide))]); have q3 : s3 (gP G a 37) = s0 (gP G a 37) := (by rw [hF_s3 (gP G a 37) (by rw [(zr (k := 37) (t2 := 94) hG ha rfl)]; decide), e_s1, zU_ne (zne ha (zr (k := 37) (t2 := 94) hG ha rfl) (by decide))]); rw [q1, q2, q3]; exact e0)), (by omega)⟩ rfl rfl ⟨by decide, by decide⟩ ⟨by decide, by decide⟩ (k2 := 0) (n2 := 0) rfl rfl (Nat.le_of_ble_eq_true rfl) dX12_ends_27 (kVM (fun s4 hS_s4 hF_s4 q71 => ?_))
    refine j_aload_n hx 0 dX12_ends_30 rfl ?_
    have g72 : zc (s4 (gP G a 46)) = zc (s3 (gP G a 46)) := by rw [hF_s4 (gP G a 46) (by rw [(zr (k := 46) (t2 := 99) hG ha rfl)]; decide)]
    have g73 : s4 (gP G a 46) 488 = s3 (gP G a 46) 488 := (by rw [(zFr_g hF_s4 (zr (k := 46) (t2 := 99) hG ha rfl) (by decide))])
    refine j_callV hx hG (c_X12_back hst a) lk_RX12_450 ha (by decide) rfl rfl rfl rfl [] ⟨rfl, hG, hS_s4, ha⟩ rfl rfl ⟨by decide, by decide⟩ ⟨by decide, by decide⟩ (k2 := 0) (n2 := 0) rfl rfl (Nat.le_of_ble_eq_true rfl) dX12_ends_31 (kVM (fun s5 hS_s5 hF_s5 q75 => ?_))
    refine j_iload_n hx 1 dX12_ends_34 rfl ?_
    refine j_if_ne hx 45 dX12_ends_35 rfl (by omega) (fun h76 => ?_) (fun h76 => ?_)
    · skip
      refine j_iload_n hx 1 dX12_ends_45 rfl ?_
      refine j_iconst hx dX12_ends_46 ?_
      refine j_icmp_ne hx 57 dX12_ends_47 rfl (by omega) ⟨by decide, by decide⟩ (fun h77 => ?_) (fun h77 => ?_)
      · skip
        refine j_iload_n hx 1 dX12_ends_57 rfl ?_
        refine j_iconst hx dX12_ends_58 ?_
        refine j_icmp_ne hx 69 dX12_ends_59 rfl (by omega) ⟨by decide, by decide⟩ (fun h78 => ?_) (fun h78 => ?_)
        · skip
          refine j_aload_n hx 0 dX12_ends_69 rfl ?_
          have f79 := zf hS_s4 ha (k := 53) rfl
          refine g13_53 hx hG ha kf_RX12_426 (v := (s4 a 53)) (by rw [(zFr_g hF_s5 ha (by decide))]) dX12_ends_70 ?_
          have g80 : s5 a 3 = s4 a 3 := (by rw [(zFr_g hF_s5 ha (by decide))])
          have f81 := zf hS_s4 ha (k := 3) rfl
          have g82 : s5 a 4 = s4 a 4 := (by rw [(zFr_g hF_s5 ha (by decide))])
          have f83 := zf hS_s4 ha (k := 4) rfl
          have g84 : s5 a 5 = s4 a 5 := (by rw [(zFr_g hF_s5 ha (by decide))])
          have f85 := zf hS_s4 ha (k := 5) rfl
          have g86 : s5 a 7 = s4 a 7 := (by rw [(zFr_g hF_s5 ha (by decide))])
          have f87 := zf hS_s4 ha (k := 7) rfl
          have g88 : s5 a 21 = s4 a 21 := (by rw [(zFr_g hF_s5 ha (by decide))])
          have f89 := zf hS_s4 ha (k := 21) rfl
          have g90 : s5 a 22 = s4 a 22 := (by rw [(zFr_g hF_s5 ha (by decide))])
          have f91 := zf hS_s4 ha (k := 22) rfl
          have g92 : s5 a 23 = s4 a 23 := (by rw [(zFr_g hF_s5 ha (by decide))])
          have f93 := zf hS_s4 ha (k := 23) rfl
          have g94 : s5 a 24 = s4 a 24 := (by rw [(zFr_g hF_s5 ha (by decide))])
          have f95 := zf hS_s4 ha (k := 24) rfl
          have g96 : s5 a 38 = s4 a 38 := (by rw [(zFr_g hF_s5 ha (by decide))])
          have f97 := zf hS_s4 ha (k := 38) rfl
          exact j_iret hx hq rfl (by decide) (by decide) dX12_ends_73 ⟨(s4 a 53), rfl, rfl, hS_s5, (zFr_t (zFr_t (zFr_t (zFr_u zFr_rf e_s1 ha (by decide)) hF_s3 (by decide)) hF_s4 (by decide)) hF_s5 (by decide)), ⟨(by omega), by omega, by omega, by omega, by omega, by omega, by omega, by omega, by omega, by omega, by omega, by omega⟩⟩
        · skip
          refine j_aload_n hx 0 dX12_ends_62 rfl ?_
          have f98 := zf hS_s4 ha (k := 51) rfl
          refine g13_51 hx hG ha kf_RX12_432 (v := (s4 a 51)) (by rw [(zFr_g hF_s5 ha (by decide))]) dX12_ends_63 ?_
          refine j_goto hx 73 dX12_ends_66 rfl ?_
          have g99 : s5 a 3 = s4 a 3 := (by rw [(zFr_g hF_s5 ha (by decide))])
          have f100 := zf hS_s4 ha (k := 3) rfl
          have g101 : s5 a 4 = s4 a 4 := (by rw [(zFr_g hF_s5 ha (by decide))])
          have f102 := zf hS_s4 ha (k := 4) rfl
          have g103 : s5 a 5 = s4 a 5 := (by rw [(zFr_g hF_s5 ha (by decide))])
          have f104 := zf hS_s4 ha (k := 5) rfl
          have g105 : s5 a 7 = s4 a 7 := (by rw [(zFr_g hF_s5 ha (by decide))])
          have f106 := zf hS_s4 ha (k := 7) rfl
          have g107 : s5 a 21 = s4 a 21 := (by rw [(zFr_g hF_s5 ha (by decide))])
          have f108 := zf hS_s4 ha (k := 21) rfl
          have g109 : s5 a 22 = s4 a 22 := (by rw [(zFr_g hF_s5 ha (by decide))])
          have f110 := zf hS_s4 ha (k := 22) rfl
          have g111 : s5 a 23 = s4 a 23 := (by rw [(zFr_g hF_s5 ha (by decide))])
          have f112 := zf hS_s4 ha (k := 23) rfl
          have g113 : s5 a 24 = s4 a 24 := (by rw [(zFr_g hF_s5 ha (by decide))])
          have f114 := zf hS_s4 ha (k := 24) rfl
          have g115 : s5 a 38 = s4 a 38 := (by rw [(zFr_g hF_s5 ha (by decide))])
          have f116 := zf hS_s4 ha (k := 38) rfl
          exact j_iret hx hq rfl (by decide) (by decide) dX12_ends_73 ⟨(s4 a 51), rfl, rfl, hS_s5, (zFr_t (zFr_t (zFr_t (zFr_u zFr_rf e_s1 ha (by decide)) hF_s3 (by decide)) hF_s4 (by decide)) hF_s5 (by decide)), ⟨(by omega), by omega, by omega, by omega, by omega, by omega, by omega, by omega, by omega, by omega, by omega, by omega⟩⟩
      · skip
        refine j_aload_n hx 0 dX12_ends_50 rfl ?_
        have f117 := zf hS_s4 ha (k := 52) rfl
        refine g13_52 hx hG ha kf_RX12_429 (v := (s4 a 52)) (by rw [(zFr_g hF_s5 ha (by decide))]) dX12_ends_51 ?_
        refine j_goto hx 73 dX12_ends_54 rfl ?_
        have g118 : s5 a 3 = s4 a 3 := (by rw [(zFr_g hF_s5 ha (by decide))])
        have f119 := zf hS_s4 ha (k := 3) rfl
        have g120 : s5 a 4 = s4 a 4 := (by rw [(zFr_g hF_s5 ha (by decide))])
        have f121 := zf hS_s4 ha (k := 4) rfl
        have g122 : s5 a 5 = s4 a 5 := (by rw [(zFr_g hF_s5 ha (by decide))])
        have f123 := zf hS_s4 ha (k := 5) rfl
        have g124 : s5 a 7 = s4 a 7 := (by rw [(zFr_g hF_s5 ha (by decide))])
        have f125 := zf hS_s4 ha (k := 7) rfl
        have g126 : s5 a 21 = s4 a 21 := (by rw [(zFr_g hF_s5 ha (by decide))])
        have f127 := zf hS_s4 ha (k := 21) rfl
        have g128 : s5 a 22 = s4 a 22 := (by rw [(zFr_g hF_s5 ha (by decide))])
        have f129 := zf hS_s4 ha (k := 22) rfl
        have g130 : s5 a 23 = s4 a 23 := (by rw [(zFr_g hF_s5 ha (by decide))])
        have f131 := zf hS_s4 ha (k := 23) rfl
        have g132 : s5 a 24 = s4 a 24 := (by rw [(zFr_g hF_s5 ha (by decide))])
        have f133 := zf hS_s4 ha (k := 24) rfl
        have g134 : s5 a 38 = s4 a 38 := (by rw [(zFr_g hF_s5 ha (by decide))])
        have f135 := zf hS_s4 ha (k := 38) rfl
        exact j_iret hx hq rfl (by decide) (by decide) dX12_ends_73 ⟨(s4 a 52), rfl, rfl, hS_s5, (zFr_t (zFr_t (zFr_t (zFr_u zFr_rf e_s1 ha (by decide)) hF_s3 (by decide)) hF_s4 (by decide)) hF_s5 (by decide)), ⟨(by omega), by omega, by omega, by omega, by omega, by omega, by omega, by omega, by omega, by omega, by omega, by omega⟩⟩
    · skip
      refine j_aload_n hx 0 dX12_ends_38 rfl ?_
      have f136 := zf hS_s4 ha (k := 54) rfl
      refine g13_54 hx hG ha kf_RX12_441 (v := (s4 a 54)) (by rw [(zFr_g hF_s5 ha (by decide))]) dX12_ends_39 ?_
      refine j_goto hx 73 dX12_ends_42 rfl ?_
      have g137 : s5 a 3 = s4 a 3 := (by rw [(zFr_g hF_s5 ha (by decide))])
      have f138 := zf hS_s4 ha (k := 3) rfl
      have g139 : s5 a 4 = s4 a 4 := (by rw [(zFr_g hF_s5 ha (by decide))])
      have f140 := zf hS_s4 ha (k := 4) rfl
      have g141 : s5 a 5 = s4 a 5 := (by rw [(zFr_g hF_s5 ha (by decide))])
      have f142 := zf hS_s4 ha (k := 5) rfl
      have g143 : s5 a 7 = s4 a 7 := (by rw [(zFr_g hF_s5 ha (by decide))])
      have f144 := zf hS_s4 ha (k := 7) rfl
      have g145 : s5 a 21 = s4 a 21 := (by rw [(zFr_g hF_s5 ha (by decide))])
      have f146 := zf hS_s4 ha (k := 21) rfl
      have g147 : s5 a 22 = s4 a 22 := (by rw [(zFr_g hF_s5 ha (by decide))])
      have f148 := zf hS_s4 ha (k := 22) rfl
      have g149 : s5 a 23 = s4 a 23 := (by rw [(zFr_g hF_s5 ha (by decide))])
      have f150 := zf hS_s4 ha (k := 23) rfl
      have g151 : s5 a 24 = s4 a 24 := (by rw [(zFr_g hF_s5 ha (by decide))])
      have f152 := zf hS_s4 ha (k := 24) rfl
      have g153 : s5 a 38 = s4 a 38 := (by rw [(zFr_g hF_s5 ha (by decide))])
      have f154 := zf hS_s4 ha (k := 38) rfl
      exact j_iret hx hq rfl (by decide) (by decide) dX12_ends_73 ⟨(s4 a 54), rfl, rfl, hS_s5, (zFr_t (zFr_t (zFr_t (zFr_u zFr_rf e_s1 ha (by decide)) hF_s3 (by decide)) hF_s4 (by decide)) hF_s5 (by decide)), ⟨(by omega), by omega, by omega, by omega, by omega, by omega, by omega, by omega, by omega, by omega, by omega, by omega⟩⟩

set_option maxHeartbeats 1200000 in
set_option maxRecDepth 20000 in
theorem c_X12_turnFor {E : zE} {l : Launch} (hst : l.stackTraces = false) (a : Nat) (x1 : Int) : Con E l yX12_turnFor cX12_turnFor 4 (some .boolean) { frames := 4, cells := 0, slots := 0, locals := 95 } (fun G s vs => vs = [.ref a, .int (zI x1)] ∧ zGK G ∧ zSK G s ∧ (gT G a = 13) ∧ ((-1) ≤ x1 ∧ x1 ≤ 2) ∧ (zc (s (gP G a 27)) ≤ 60) ∧ (s (gP G a 27) 488 ≤ 599999)) (fun G s _ => pI (fun r G2 s2 => G2 = G ∧ zSK G s2 ∧ zFr [13, 84] G s s2 ∧ (0 ≤ r ∧ r ≤ 1) ∧ zc (s2 (gP G a 27)) = zc (s (gP G a 27)) ∧ ((r = 0 → s2 (gP G a 27) 488 = s (gP G a 27) 488) ∧ (r = 1 → s2 (gP G a 27) 488 = s (gP G a 27) 488 + 1)) ∧ s2 a 0 = s a 0 ∧ s2 a 3 = s a 3 ∧ s2 a 4 = s a 4 ∧ s2 a 5 = s a 5 ∧ s2 a 7 = s a 7 ∧ s2 a 21 = s a 21 ∧ s2 a 22 = s a 22 ∧ s2 a 23 = s a 23 ∧ s2 a 24 = s a 24 ∧ s2 a 38 = s a 38 ∧ s2 a 51 = s a 51 ∧ s2 a 52 = s a 52)) := by
  refine Con.mk hst (by decide) (fun G s vs h => by rw [h.1]; exact Nat.le_of_ble_eq_true rfl) ?_
  rintro X G s0 vs ⟨rfl, hG, hS0, ha, hx1, e0, e1⟩ rfl hx hq
  show JJ X E 4 G s0 0 0 [(0, .ref a), (1, .int (zI x1))] 0 []
  refine j_aload_n hx 0 dX12_turnFor_0 rfl ?_
  refine j_callV hx hG (c_X12_whose hst a) lk_RX12_336 ha (by decide) rfl rfl rfl rfl [] ⟨rfl, hG, hS0, ha⟩ rfl rfl ⟨by decide, by decide⟩ ⟨by decide, by decide⟩ (k2 := 0) (n2 := 0) rfl rfl (Nat.le_of_ble_eq_true rfl) dX12_turnFor_1 (kIP (fun v1 q2 => ?_))
  refine j_istore_n hx [(2, .int (zI v1)), (0, .ref a), (1, .int (zI x1))] dX12_turnFor_4 (by decide) rfl ?_
  refine j_iload_n hx 0 dX12_turnFor_5 rfl ?_
  refine j_iconst hx dX12_turnFor_6 ?_
  refine j_icmp_ne hx 12 dX12_turnFor_7 rfl (by omega) ⟨by decide, by decide⟩ (fun h3 => ?_) (fun h3 => ?_)
  · skip
    refine j_aload_n hx 1 dX12_turnFor_12 rfl ?_
    refine j_iload_n hx 0 dX12_turnFor_13 rfl ?_
    refine j_callV hx hG (c_X12_turnsOver hst a v1) lk_RX12_397 ha (by decide) rfl rfl rfl rfl [.int (zI v1)] ⟨rfl, hG, hS0, ha, (by omega), (by omega)⟩ rfl rfl ⟨by decide, by decide⟩ ⟨by decide, by decide⟩ (k2 := 0) (n2 := 0) rfl rfl (Nat.le_of_ble_eq_true rfl) dX12_turnFor_14 (kVM (fun s1 hS_s1 hF_s1 q5 => ?_))
    refine j_aload_n hx 1 dX12_turnFor_17 rfl ?_
    refine j_iload_n hx 0 dX12_turnFor_18 rfl ?_
    have g6 : s1 a 0 = s0 a 0 := (by rw [(zFr_g hF_s1 ha (by decide))])
    have f7 := zf hS0 ha (k := 0) rfl
    have g8 : s1 a 3 = s0 a 3 := (by rw [(zFr_g hF_s1 ha (by decide))])
    have f9 := zf hS0 ha (k := 3) rfl
    have g10 : s1 a 4 = s0 a 4 := (by rw [(zFr_g hF_s1 ha (by decide))])
    have f11 := zf hS0 ha (k := 4) rfl
    have g12 : s1 a 5 = s0 a 5 := (by rw [(zFr_g hF_s1 ha (by decide))])
    have f13 := zf hS0 ha (k := 5) rfl
    have g14 : s1 a 7 = s0 a 7 := (by rw [(zFr_g hF_s1 ha (by decide))])
    have f15 := zf hS0 ha (k := 7) rfl
    have g16 : s1 a 21 = s0 a 21 := (by rw [(zFr_g hF_s1 ha (by decide))])
    have f17 := zf hS0 ha (k := 21) rfl
    have g18 : s1 a 22 = s0 a 22 := (by rw [(zFr_g hF_s1 ha (by decide))])
    have f19 := zf hS0 ha (k := 22) rfl
    have g20 : s1 a 23 = s0 a 23 := (by rw [(zFr_g hF_s1 ha (by decide))])
    have f21 := zf hS0 ha (k := 23) rfl
    have g22 : s1 a 24 = s0 a 24 := (by rw [(zFr_g hF_s1 ha (by decide))])
    have f23 := zf hS0 ha (k := 24) rfl
    have g24 : s1 a 38 = s0 a 38 := (by rw [(zFr_g hF_s1 ha (by decide))])
    have f25 := zf hS0 ha (k := 38) rfl
    have g26 : s1 a 51 = s0 a 51 := (by rw [(zFr_g hF_s1 ha (by decide))])
    have f27 := zf hS0 ha (k := 51) rfl
    have g28 : s1 a 52 = s0 a 52 := (by rw [(zFr_g hF_s1 ha (by decide))])
    have f29 := zf hS0 ha (k := 52) rfl
    refine j_callV hx hG (c_X12_lays hst a v1) lk_RX12_403 ha (by decide) rfl rfl rfl rfl [.int (zI v1)] ⟨rfl, hG, hS_s1, ha, (by omega), (by omega), (by omega)⟩ rfl rfl ⟨by decide, by decide⟩ ⟨by decide, by decide⟩ (k2 := 0) (n2 := 0) rfl rfl (Nat.le_of_ble_eq_true rfl) dX12_turnFor_19 (kVM (fun s2 hS_s2 hF_s2 q31 => ?_))
    refine j_aload_n hx 1 dX12_turnFor_22 rfl ?_
    refine j_callV hx hG (c_X12_alikes hst a) lk_RX12_343 ha (by decide) rfl rfl rfl rfl [] ⟨rfl, hG, hS_s2, ha⟩ rfl rfl ⟨by decide, by decide⟩ ⟨by decide, by decide⟩ (k2 := 0) (n2 := 0) rfl rfl (Nat.le_of_ble_eq_true rfl) dX12_turnFor_23 (kIP (fun v32 q33 => ?_))
    refine j_istore_n hx [(3, .int (zI v32)), (2, .int (zI v1)), (0, .ref a), (1, .int (zI x1))] dX12_turnFor_26 (by decide) rfl ?_
    refine j_iload_n hx 0 dX12_turnFor_27 rfl ?_
    refine j_iconst hx dX12_turnFor_28 ?_
    have c52_3 : ∀ (s4 : zS), (zSK G s4) → (zFr [84] G s2 s4) → (zc (s4 (gP G a 27)) = zc (s2 (gP G a 27))) → JJ X E 4 G s4 0 0 [(0, .ref a), (2, .int (zI v1))] 52 [] := by
      intro s4 hS_s4 hF_s4 fA7
      refine j_aload_n hx 0 dX12_turnFor_52 rfl ?_
      refine g13_27 hx hG ha kf_RX12_56 dX12_turnFor_53 ?_
      refine j_sipush hx dX12_turnFor_56 rfl ?_
      refine j_dup2 hx dX12_turnFor_59 rfl rfl ?_
      have f34 := zaQ (j := 488) hS_s4 (zr (k := 27) (t2 := 84) hG ha rfl) (congrArg some (axS_4 488 (by omega))) (zlen hG (zr (k := 27) (t2 := 84) hG ha rfl) (n := 515) rfl rfl) (show 0 ≤ 488 by omega) (by omega) rfl
      refine j_iald hx hG (zr (k := 27) (t2 := 84) hG ha rfl) (by decide) rfl (zlen hG (zr (k := 27) (t2 := 84) hG ha rfl) (n := 515) rfl rfl) (by omega) (by omega) (j := 488) rfl rfl dX12_turnFor_60 ?_
      refine j_iconst hx dX12_turnFor_61 ?_
      refine j_iadd hx (r := (s4 (gP G a 27) 488) + 1) dX12_turnFor_62 (by omega) ?_
      refine j_iast hx hG (zr (k := 27) (t2 := 84) hG ha rfl) (by decide) rfl (zlen hG (zr (k := 27) (t2 := 84) hG ha rfl) (n := 515) rfl rfl) (by omega) (by omega) (j := 488) rfl dX12_turnFor_63 ?_
      obtain ⟨s8, e_s8⟩ : ∃ z, z = zU s4 (gP G a 27) 488 ((s4 (gP G a 27) 488) + 1) := ⟨_, rfl⟩
      rw [← e_s8]
      have hS_s8 : zSK G s8 := by rw [e_s8]; exact zSK_a hS_s4 (zr (k := 27) (t2 := 84) hG ha rfl) rfl rfl (congrArg some (axS_4 488 (by omega))) (by omega)
      have z35 : zc (s8 (gP G a 27)) = zc (s4 (gP G a 27)) := by rw [e_s8]; exact zc_o (by omega)
      refine j_aload_n hx 0 dX12_turnFor_64 rfl ?_
      refine g13_27 hx hG ha kf_RX12_56 dX12_turnFor_65 ?_
      refine j_sipush hx dX12_turnFor_68 rfl ?_
      refine j_iload_n hx 1 dX12_turnFor_71 rfl ?_
      refine j_iast hx hG (zr (k := 27) (t2 := 84) hG ha rfl) (by decide) rfl (zlen hG (zr (k := 27) (t2 := 84) hG ha rfl) (n := 515) rfl rfl) (by omega) (by omega) (j := 487) rfl dX12_turnFor_72 ?_
      obtain ⟨s9, e_s9⟩ : ∃ z, z = zU s8 (gP G a 27) 487 v1 := ⟨_, rfl⟩
      rw [← e_s9]
      have hS_s9 : zSK G s9 := by rw [e_s9]; exact zSK_a hS_s8 (zr (k := 27) (t2 := 84) hG ha rfl) rfl rfl (congrArg some (axS_3 487 (by omega))) (by omega)
      have z36 : zc (s9 (gP G a 27)) = zc (s8 (gP G a 27)) := by rw [e_s9]; exact zc_o (by omega)
      refine j_iconst hx dX12_turnFor_73 ?_
      have g37 : s9 (gP G a 27) 488 = (s4 (gP G a 27) 488) + 1 := (by rw [e_s9, zU_at (Or.inr (by decide)), e_s8, zU_eq])
      have g38 : s9 a 0 = s2 a 0 := (by rw [e_s9, zU_at (Or.inl (zne (zr (k := 27) (t2 := 84) hG ha rfl) ha (by decide))), e_s8, zU_at (Or.inl (zne (zr (k := 27) (t2 := 84) hG ha rfl) ha (by decide))), (zFr_g hF_s4 ha (by decide))])
      have f39 := zf hS_s2 ha (k := 0) rfl
      have g40 : s9 a 3 = s2 a 3 := (by rw [e_s9, zU_at (Or.inl (zne (zr (k := 27) (t2 := 84) hG ha rfl) ha (by decide))), e_s8, zU_at (Or.inl (zne (zr (k := 27) (t2 := 84) hG ha rfl) ha (by decide))), (zFr_g hF_s4 ha (by decide))])
      have f41 := zf hS_s2 ha (k := 3) rfl
      have g42 : s9 a 4 = s2 a 4 := (by rw [e_s9, zU_at (Or.inl (zne (zr (k := 27) (t2 := 84) hG ha rfl) ha (by decide))), e_s8, zU_at (Or.inl (zne (zr (k := 27) (t2 := 84) hG ha rfl) ha (by decide))), (zFr_g hF_s4 ha (by decide))])
      have f43 := zf hS_s2 ha (k := 4) rfl
      have g44 : s9 a 5 = s2 a 5 := (by rw [e_s9, zU_at (Or.inl (zne (zr (k := 27) (t2 := 84) hG ha rfl) ha (by decide))), e_s8, zU_at (Or.inl (zne (zr (k := 27) (t2 := 84) hG ha rfl) ha (by decide))), (zFr_g hF_s4 ha (by decide))])
      have f45 := zf hS_s2 ha (k := 5) rfl
      have g46 : s9 a 7 = s2 a 7 := (by rw [e_s9, zU_at (Or.inl (zne (zr (k := 27) (t2 := 84) hG ha rfl) ha (by decide))), e_s8, zU_at (Or.inl (zne (zr (k := 27) (t2 := 84) hG ha rfl) ha (by decide))), (zFr_g hF_s4 ha (by decide))])
      have f47 := zf hS_s2 ha (k := 7) rfl
      have g48 : s9 a 21 = s2 a 21 := (by rw [e_s9, zU_at (Or.inl (zne (zr (k := 27) (t2 := 84) hG ha rfl) ha (by decide))), e_s8, zU_at (Or.inl (zne (zr (k := 27) (t2 := 84) hG ha rfl) ha (by decide))), (zFr_g hF_s4 ha (by decide))])
      have f49 := zf hS_s2 ha (k := 21) rfl
      have g50 : s9 a 22 = s2 a 22 := (by rw [e_s9, zU_at (Or.inl (zne (zr (k := 27) (t2 := 84) hG ha rfl) ha (by decide))), e_s8, zU_at (Or.inl (zne (zr (k := 27) (t2 := 84) hG ha rfl) ha (by decide))), (zFr_g hF_s4 ha (by decide))])
      have f51 := zf hS_s2 ha (k := 22) rfl
      have g52 : s9 a 23 = s2 a 23 := (by rw [e_s9, zU_at (Or.inl (zne (zr (k := 27) (t2 := 84) hG ha rfl) ha (by decide))), e_s8, zU_at (Or.inl (zne (zr (k := 27) (t2 := 84) hG ha rfl) ha (by decide))), (zFr_g hF_s4 ha (by decide))])
      have f53 := zf hS_s2 ha (k := 23) rfl
      have g54 : s9 a 24 = s2 a 24 := (by rw [e_s9, zU_at (Or.inl (zne (zr (k := 27) (t2 := 84) hG ha rfl) ha (by decide))), e_s8, zU_at (Or.inl (zne (zr (k := 27) (t2 := 84) hG ha rfl) ha (by decide))), (zFr_g hF_s4 ha (by decide))])
      have f55 := zf hS_s2 ha (k := 24) rfl
      have g56 : s9 a 38 = s2 a 38 := (by rw [e_s9, zU_at (Or.inl (zne (zr (k := 27) (t2 := 84) hG ha rfl) ha (by decide))), e_s8, zU_at (Or.inl (zne (zr (k := 27) (t2 := 84) hG ha rfl) ha (by decide))), (zFr_g hF_s4 ha (by decide))])
      have f57 := zf hS_s2 ha (k := 38) rfl
      have g58 : s9 a 51 = s2 a 51 := (by rw [e_s9, zU_at (Or.inl (zne (zr (k := 27) (t2 := 84) hG ha rfl) ha (by decide))), e_s8, zU_at (Or.inl (zne (zr (k := 27) (t2 := 84) hG ha rfl) ha (by decide))), (zFr_g hF_s4 ha (by decide))])
      have f59 := zf hS_s2 ha (k := 51) rfl
      have g60 : s9 a 52 = s2 a 52 := (by rw [e_s9, zU_at (Or.inl (zne (zr (k := 27) (t2 := 84) hG ha rfl) ha (by decide))), e_s8, zU_at (Or.inl (zne (zr (k := 27) (t2 := 84) hG ha rfl) ha (by decide))), (zFr_g hF_s4 ha (by decide))])
      have f61 := zf hS_s2 ha (k := 52) rfl
      exact j_zret hx hq rfl (by decide) (by decide) dX12_turnFor_74 (by omega) ⟨1, rfl, rfl, hS_s9, (zFr_u (zFr_u (zFr_t (zFr_t (zFr_t zFr_rf hF_s1 (by decide)) hF_s2 (by decide)) hF_s4 (by decide)) e_s8 (zr (k := 27) (t2 := 84) hG ha rfl) (by decide)) e_s9 (zr (k := 27) (t2 := 84) hG ha rfl) (by decide)), ⟨(by omega), by omega, by omega, by omega, by omega, by omega, by omega, by omega, by omega, by omega, by omega, by omega, by omega, by omega, by omega⟩⟩
    refine j_icmp_eq hx 52 dX12_turnFor_29 rfl (by omega) ⟨by decide, by decide⟩ (fun h62 => ?_) (fun h62 => ?_)
    · skip
      exact j_sub [2, 1] [(0, .ref a), (2, .int (zI v1))] rfl (c52_3 s2 hS_s2 zFr_rf (by omega))
    · skip
      refine j_iload_n hx 3 dX12_turnFor_32 rfl ?_
      refine j_iconst hx dX12_turnFor_33 ?_
      refine j_icmp_eq hx 52 dX12_turnFor_34 rfl (by omega) ⟨by decide, by decide⟩ (fun h63 => ?_) (fun h63 => ?_)
      · skip
        exact j_sub [2, 1] [(0, .ref a), (2, .int (zI v1))] rfl (c52_3 s2 hS_s2 zFr_rf (by omega))
      · skip
        refine j_aload_n hx 2 dX12_turnFor_37 rfl ?_
        refine j_iload_n hx 3 dX12_turnFor_38 rfl ?_
        refine j_callV hx hG (c_X12_isOut hst a x1) lk_RX12_325 ha (by decide) rfl rfl rfl rfl [.int (zI x1)] ⟨rfl, hG, hS_s2, ha, (by omega)⟩ rfl rfl ⟨by decide, by decide⟩ ⟨by decide, by decide⟩ (k2 := 0) (n2 := 0) rfl rfl (Nat.le_of_ble_eq_true rfl) dX12_turnFor_39 (kIP (fun v64 q65 => ?_))
        refine j_if_ne hx 52 dX12_turnFor_42 rfl (by omega) (fun h66 => ?_) (fun h66 => ?_)
        · skip
          exact j_sub [2, 1] [(0, .ref a), (2, .int (zI v1))] rfl (c52_3 s2 hS_s2 zFr_rf (by omega))
        · skip
          refine j_aload_n hx 2 dX12_turnFor_45 rfl ?_
          refine j_iload_n hx 3 dX12_turnFor_46 rfl ?_
          refine j_iload_n hx 0 dX12_turnFor_47 rfl ?_
          refine j_callV hx hG (c_X12_wins hst a x1 v32) lk_RX12_394 ha (by decide) rfl rfl rfl rfl [.int (zI x1), .int (zI v32)] ⟨rfl, hG, hS_s2, ha, (by omega), (by omega), (by omega), (by omega)⟩ rfl rfl ⟨by decide, by decide⟩ ⟨by decide, by decide⟩ (k2 := 0) (n2 := 0) rfl rfl (Nat.le_of_ble_eq_true rfl) dX12_turnFor_48 (kIM (fun v67 s10 hS_s10 hF_s10 q68 => ?_))
          refine j_pop hx dX12_turnFor_51 rfl ?_
          exact j_sub [2, 1] [(0, .ref a), (2, .int (zI v1))] rfl (c52_3 s10 hS_s10 (zFr_t zFr_rf hF_s10 (by decide)) (by omega))
  · skip
    refine j_iconst hx dX12_turnFor_10 ?_
    have f69 := zf hS0 ha (k := 0) rfl
    have f70 := zf hS0 ha (k := 3) rfl
    have f71 := zf hS0 ha (k := 4) rfl
    have f72 := zf hS0 ha (k := 5) rfl
    have f73 := zf hS0 ha (k := 7) rfl
    have f74 := zf hS0 ha (k := 21) rfl
    have f75 := zf hS0 ha (k := 22) rfl
    have f76 := zf hS0 ha (k := 23) rfl
    have f77 := zf hS0 ha (k := 24) rfl
    have f78 := zf hS0 ha (k := 38) rfl
    have f79 := zf hS0 ha (k := 51) rfl
    have f80 := zf hS0 ha (k := 52) rfl
    exact j_zret hx hq rfl (by decide) (by decide) dX12_turnFor_11 (by omega) ⟨0, rfl, rfl, hS0, zFr_rf, ⟨(by omega), by omega, by omega, by omega, by omega, by omega, by omega, by omega, by omega, by omega, by omega, by omega, by omega, by omega, by omega⟩⟩

theorem lk_RX12_453 : LkV RX12 453 RX12 yX12_turnFor cX12_turnFor 4 (some .boolean) 1 := ⟨km_RX12_453, ki_yX12_turnFor, ks_RX12_yX12_turnFor, kn_RX12, kc_yX12_turnFor, rfl, by decide +kernel, by decide +kernel, by decide +kernel⟩
set_option maxHeartbeats 1200000 in
set_option maxRecDepth 20000 in
theorem c_X12_where {E : zE} {l : Launch} (hst : l.stackTraces = false) (a : Nat) (x1 : Int) : Con E l yX12_where cX12_where 5 (some .int) { frames := 5, cells := 0, slots := 0, locals := 118 } (fun G s vs => vs = [.ref a, .int (zI x1)] ∧ zGK G ∧ zSK G s ∧ (gT G a = 13) ∧ ((-2147483648) ≤ x1 ∧ x1 ≤ 2147483647) ∧ (zc (s (gP G a 27)) ≤ 60) ∧ (s (gP G a 27) 488 ≤ 520000)) (fun G s _ => pI (fun r G2 s2 => G2 = G ∧ zSK G s2 ∧ zFr [13, 84, 87, 99, 100] G s s2 ∧ ((-2147483648) ≤ r ∧ r ≤ 2147483647) ∧ zc (s2 (gP G a 27)) = zc (s (gP G a 27)) ∧ s2 (gP G a 27) 488 = s (gP G a 27) 488 ∧ s2 a 3 = s a 3 ∧ s2 a 4 = s a 4 ∧ s2 a 5 = s a 5 ∧ s2 a 7 = s a 7 ∧ s2 a 21 = s a 21 ∧ s2 a 22 = s a 22 ∧ s2 a 23 = s a 23 ∧ s2 a 24 = s a 24 ∧ s2 a 38 = s a 38 ∧ s2 a 51 = s a 51 ∧ s2 a 52 = s a 52)) := by
  refine Con.mk hst (by decide) (fun G s vs h => by rw [h.1]; exact Nat.le_of_ble_eq_true rfl) ?_
  rintro X G s0 vs ⟨rfl, hG, hS0, ha, hx1, e0, e1⟩ rfl hx hq
  show JJ X E 5 G s0 0 0 [(0, .ref a), (1, .int (zI x1))] 0 []
  refine j_aload_n hx 0 dX12_where_0 rfl ?_
  refine j_iconst hx dX12_where_1 ?_
  refine p13_0 hx hG ha kf_RX12_3 dX12_where_2 ?_
  obtain ⟨s1, e_s1⟩ : ∃ z, z = zU s0 a 0 0 := ⟨_, rfl⟩
  rw [← e_s1]
  have hS_s1 : zSK G s1 := by rw [e_s1]; exact zSK_F hS0 ha rfl rfl rfl (by omega)
  refine j_aload_n hx 0 dX12_where_5 rfl ?_
  have g1 : zc (s1 (gP G a 27)) = zc (s0 (gP G a 27)) := by rw [e_s1, zU_ne (zne ha (zr (k := 27) (t2 := 84) hG ha rfl) (by decide))]
  have g2 : s1 (gP G a 27) 488 = s0 (gP G a 27) 488 := (by rw [e_s1, zU_at (Or.inl (zne ha (zr (k := 27) (t2 := 84) hG ha rfl) (by decide)))])
  refine j_callV hx hG (c_X12_keeps hst a) lk_RX12_444 ha (by decide) rfl rfl rfl rfl [] ⟨rfl, hG, hS_s1, ha⟩ rfl rfl ⟨by decide, by decide⟩ ⟨by decide, by decide⟩ (k2 := 0) (n2 := 0) rfl rfl (Nat.le_of_ble_eq_true rfl) dX12_where_6 (kVM (fun s2 hS_s2 hF_s2 q4 => ?_))
  refine j_iconst hx dX12_where_9 ?_
  refine j_istore_n hx [(2, .int (zI 0)), (0, .ref a), (1, .int (zI x1))] dX12_where_10 (by decide) rfl ?_
  refine j_iconst hx dX12_where_11 ?_
  refine j_istore_n hx [(3, .int (zI (-1))), (2, .int (zI 0)), (0, .ref a), (1, .int (zI x1))] dX12_where_12 (by decide) rfl ?_
  refine j_iconst hx dX12_where_13 ?_
  refine j_istore hx [(4, .int (zI 0)), (3, .int (zI (-1))), (2, .int (zI 0)), (0, .ref a), (1, .int (zI x1))] dX12_where_14 (by decide) rfl ?_
  have g8 : s2 a 0 = 0 := (by rw [(zFr_g hF_s2 ha (by decide)), e_s1, zU_eq])
  have g9 : s2 a 3 = s0 a 3 := (by rw [(zFr_g hF_s2 ha (by decide)), e_s1, zU_at (Or.inr (by decide))])
  have f10 := zf hS0 ha (k := 3) rfl
  have g11 : s2 a 4 = s0 a 4 := (by rw [(zFr_g hF_s2 ha (by decide)), e_s1, zU_at (Or.inr (by decide))])
  have f12 := zf hS0 ha (k := 4) rfl
  have g13 : s2 a 5 = s0 a 5 := (by rw [(zFr_g hF_s2 ha (by decide)), e_s1, zU_at (Or.inr (by decide))])
  have f14 := zf hS0 ha (k := 5) rfl
  have g15 : s2 a 7 = s0 a 7 := (by rw [(zFr_g hF_s2 ha (by decide)), e_s1, zU_at (Or.inr (by decide))])
  have f16 := zf hS0 ha (k := 7) rfl
  have g17 : s2 a 21 = s0 a 21 := (by rw [(zFr_g hF_s2 ha (by decide)), e_s1, zU_at (Or.inr (by decide))])
  have f18 := zf hS0 ha (k := 21) rfl
  have g19 : s2 a 22 = s0 a 22 := (by rw [(zFr_g hF_s2 ha (by decide)), e_s1, zU_at (Or.inr (by decide))])
  have f20 := zf hS0 ha (k := 22) rfl
  have g21 : s2 a 23 = s0 a 23 := (by rw [(zFr_g hF_s2 ha (by decide)), e_s1, zU_at (Or.inr (by decide))])
  have f22 := zf hS0 ha (k := 23) rfl
  have g23 : s2 a 24 = s0 a 24 := (by rw [(zFr_g hF_s2 ha (by decide)), e_s1, zU_at (Or.inr (by decide))])
  have f24 := zf hS0 ha (k := 24) rfl
  have g25 : s2 a 38 = s0 a 38 := (by rw [(zFr_g hF_s2 ha (by decide)), e_s1, zU_at (Or.inr (by decide))])
  have f26 := zf hS0 ha (k := 38) rfl
  have g27 : s2 a 51 = s0 a 51 := (by rw [(zFr_g hF_s2 ha (by decide)), e_s1, zU_at (Or.inr (by decide))])
  have f28 := zf hS0 ha (k := 51) rfl
  have g29 : s2 a 52 = s0 a 52 := (by rw [(zFr_g hF_s2 ha (by decide)), e_s1, zU_at (Or.inr (by decide))])
  have f30 := zf hS0 ha (k := 52) rfl
  have g31 : s2 (gP G a 27) 488 = s0 (gP G a 27) 488 := (by rw [(zFr_g hF_s2 (zr (k := 27) (t2 := 84) hG ha rfl) (by decide)), e_s1, zU_at (Or.inl (zne ha (zr (k := 27) (t2 := 84) hG ha rfl) (by decide)))])
  have g32 : zc (s2 (gP G a 27)) = zc (s0 (gP G a 27)) := by rw [hF_s2 (gP G a 27) (by rw [(zr (k := 27) (t2 := 84) hG ha rfl)]; decide), e_s1, zU_ne (zne ha (zr (k := 27) (t2 := 84) hG ha rfl) (by decide))]
  have c16_3 : ∀ (m_c16_3 : Nat) (v5 : Int) (v6 : Int) (v7 : Int) (s4 : zS), 2147483648 - v7 < m_c16_3 → ((-2147483648) ≤ v5 ∧ v5 ≤ 2147483647) → ((-1) ≤ v6 ∧ v6 ≤ 59) → (0 ≤ v7 ∧ v7 ≤ 60) → (zSK G s4) → (zFr [13, 84] G s2 s4) → (s4 a 0 = s2 a 0) → (s4 a 3 = s2 a 3) → (s4 a 4 = s2 a 4) → (s4 a 5 = s2 a 5) → (s4 a 7 = s2 a 7) → (s4 a 21 = s2 a 21) → (s4 a 22 = s2 a 22) → (s4 a 23 = s2 a 23) → (s4 a 24 = s2 a 24) → (s4 a 38 = s2 a 38) → (s4 a 51 = s2 a 51) → (s4 a 52 = s2 a 52) → (zc (s4 (gP G a 27)) = zc (s2 (gP G a 27))) → (s4 (gP G a 27) 488 ≤ s2 (gP G a 27) 488 + v7) → JJ X E 5 G s4 0 0 [(0, .ref a), (1, .int (zI x1)), (2, .int (zI v5)), (3, .int (zI v6)), (4, .int (zI v7))] 16 [] := by
    intro m_c16_3
    induction m_c16_3 with
    | zero => intro v5 v6 v7 s4 hm_c16_3 fA5 fA6 fA7 hS_s4 hF_s4 fA10 fA11 fA12 fA13 fA14 fA15 fA16 fA17 fA18 fA19 fA20 fA21 fA22 fA23; exfalso; omega
    | succ m_c16_3 ih_c16_3 => 
      intro v5 v6 v7 s4 hm_c16_3 fA5 fA6 fA7 hS_s4 hF_s4 fA10 fA11 fA12 fA13 fA14 fA15 fA16 fA17 fA18 fA19 fA20 fA21 fA22 fA23
      refine j_iload hx 4 dX12_where_16 rfl ?_
      refine j_bipush hx dX12_where_18 rfl ?_
      refine j_icmp_ge hx 64 dX12_where_20 rfl (by omega) ⟨by decide, by decide⟩ (fun h33 => ?_) (fun h33 => ?_)
      · skip
        refine j_aload_n hx 0 dX12_where_64 rfl ?_
        have g34 : zc (s4 (gP G a 46)) = zc (s2 (gP G a 46)) := by rw [hF_s4 (gP G a 46) (by rw [(zr (k := 46) (t2 := 99) hG ha rfl)]; decide)]
        have g35 : s4 (gP G a 46) 488 = s2 (gP G a 46) 488 := (by rw [(zFr_g hF_s4 (zr (k := 46) (t2 := 99) hG ha rfl) (by decide))])
        refine j_callV hx hG (c_X12_back hst a) lk_RX12_450 ha (by decide) rfl rfl rfl rfl [] ⟨rfl, hG, hS_s4, ha⟩ rfl rfl ⟨by decide, by decide⟩ ⟨by decide, by decide⟩ (k2 := 0) (n2 := 0) rfl rfl (Nat.le_of_ble_eq_true rfl) dX12_where_65 (kVM (fun s24 hS_s24 hF_s24 q37 => ?_))
        refine j_iload_n hx 3 dX12_where_68 rfl ?_
        have g38 : s24 a 3 = s4 a 3 := (by rw [(zFr_g hF_s24 ha (by decide))])
        have f39 := zf hS_s4 ha (k := 3) rfl
        have g40 : s24 a 4 = s4 a 4 := (by rw [(zFr_g hF_s24 ha (by decide))])
        have f41 := zf hS_s4 ha (k := 4) rfl
        have g42 : s24 a 5 = s4 a 5 := (by rw [(zFr_g hF_s24 ha (by decide))])
        have f43 := zf hS_s4 ha (k := 5) rfl
        have g44 : s24 a 7 = s4 a 7 := (by rw [(zFr_g hF_s24 ha (by decide))])
        have f45 := zf hS_s4 ha (k := 7) rfl
        have g46 : s24 a 21 = s4 a 21 := (by rw [(zFr_g hF_s24 ha (by decide))])
        have f47 := zf hS_s4 ha (k := 21) rfl
        have g48 : s24 a 22 = s4 a 22 := (by rw [(zFr_g hF_s24 ha (by decide))])
        have f49 := zf hS_s4 ha (k := 22) rfl
        have g50 : s24 a 23 = s4 a 23 := (by rw [(zFr_g hF_s24 ha (by decide))])
        have f51 := zf hS_s4 ha (k := 23) rfl
        have g52 : s24 a 24 = s4 a 24 := (by rw [(zFr_g hF_s24 ha (by decide))])
        have f53 := zf hS_s4 ha (k := 24) rfl
        have g54 : s24 a 38 = s4 a 38 := (by rw [(zFr_g hF_s24 ha (by decide))])
        have f55 := zf hS_s4 ha (k := 38) rfl
        have g56 : s24 a 51 = s4 a 51 := (by rw [(zFr_g hF_s24 ha (by decide))])
        have f57 := zf hS_s4 ha (k := 51) rfl
        have g58 : s24 a 52 = s4 a 52 := (by rw [(zFr_g hF_s24 ha (by decide))])
        have f59 := zf hS_s4 ha (k := 52) rfl
        exact j_iret hx hq rfl (by decide) (by decide) dX12_where_69 ⟨v6, rfl, rfl, hS_s24, (zFr_t (zFr_t (zFr_t (zFr_u zFr_rf e_s1 ha (by decide)) hF_s2 (by decide)) hF_s4 (by decide)) hF_s24 (by decide)), ⟨(by omega), by omega, by omega, by omega, by omega, by omega, by omega, by omega, by omega, by omega, by omega, by omega, by omega, by omega⟩⟩
      · skip
        refine j_iload_n hx 3 dX12_where_23 rfl ?_
        refine j_iconst hx dX12_where_24 ?_
        refine j_icmp_ne hx 64 dX12_where_25 rfl (by omega) ⟨by decide, by decide⟩ (fun h60 => ?_) (fun h60 => ?_)
        · skip
          refine j_aload_n hx 0 dX12_where_64 rfl ?_
          have g61 : zc (s4 (gP G a 46)) = zc (s2 (gP G a 46)) := by rw [hF_s4 (gP G a 46) (by rw [(zr (k := 46) (t2 := 99) hG ha rfl)]; decide)]
          have g62 : s4 (gP G a 46) 488 = s2 (gP G a 46) 488 := (by rw [(zFr_g hF_s4 (zr (k := 46) (t2 := 99) hG ha rfl) (by decide))])
          refine j_callV hx hG (c_X12_back hst a) lk_RX12_450 ha (by decide) rfl rfl rfl rfl [] ⟨rfl, hG, hS_s4, ha⟩ rfl rfl ⟨by decide, by decide⟩ ⟨by decide, by decide⟩ (k2 := 0) (n2 := 0) rfl rfl (Nat.le_of_ble_eq_true rfl) dX12_where_65 (kVM (fun s25 hS_s25 hF_s25 q64 => ?_))
          refine j_iload_n hx 3 dX12_where_68 rfl ?_
          have g65 : s25 a 3 = s4 a 3 := (by rw [(zFr_g hF_s25 ha (by decide))])
          have f66 := zf hS_s4 ha (k := 3) rfl
          have g67 : s25 a 4 = s4 a 4 := (by rw [(zFr_g hF_s25 ha (by decide))])
          have f68 := zf hS_s4 ha (k := 4) rfl
          have g69 : s25 a 5 = s4 a 5 := (by rw [(zFr_g hF_s25 ha (by decide))])
          have f70 := zf hS_s4 ha (k := 5) rfl
          have g71 : s25 a 7 = s4 a 7 := (by rw [(zFr_g hF_s25 ha (by decide))])
          have f72 := zf hS_s4 ha (k := 7) rfl
          have g73 : s25 a 21 = s4 a 21 := (by rw [(zFr_g hF_s25 ha (by decide))])
          have f74 := zf hS_s4 ha (k := 21) rfl
          have g75 : s25 a 22 = s4 a 22 := (by rw [(zFr_g hF_s25 ha (by decide))])
          have f76 := zf hS_s4 ha (k := 22) rfl
          have g77 : s25 a 23 = s4 a 23 := (by rw [(zFr_g hF_s25 ha (by decide))])
          have f78 := zf hS_s4 ha (k := 23) rfl
          have g79 : s25 a 24 = s4 a 24 := (by rw [(zFr_g hF_s25 ha (by decide))])
          have f80 := zf hS_s4 ha (k := 24) rfl
          have g81 : s25 a 38 = s4 a 38 := (by rw [(zFr_g hF_s25 ha (by decide))])
          have f82 := zf hS_s4 ha (k := 38) rfl
          have g83 : s25 a 51 = s4 a 51 := (by rw [(zFr_g hF_s25 ha (by decide))])
          have f84 := zf hS_s4 ha (k := 51) rfl
          have g85 : s25 a 52 = s4 a 52 := (by rw [(zFr_g hF_s25 ha (by decide))])
          have f86 := zf hS_s4 ha (k := 52) rfl
          exact j_iret hx hq rfl (by decide) (by decide) dX12_where_69 ⟨v6, rfl, rfl, hS_s25, (zFr_t (zFr_t (zFr_t (zFr_u zFr_rf e_s1 ha (by decide)) hF_s2 (by decide)) hF_s4 (by decide)) hF_s25 (by decide)), ⟨(by omega), by omega, by omega, by omega, by omega, by omega, by omega, by omega, by omega, by omega, by omega, by omega, by omega, by omega⟩⟩
        · skip
          refine j_aload_n hx 0 dX12_where_28 rfl ?_
          refine j_iconst hx dX12_where_29 ?_
          have f87 := zf hS_s4 ha (k := 0) rfl
          have f88 := zf hS_s4 ha (k := 3) rfl
          have f89 := zf hS_s4 ha (k := 4) rfl
          have f90 := zf hS_s4 ha (k := 5) rfl
          have f91 := zf hS_s4 ha (k := 7) rfl
          have f92 := zf hS_s4 ha (k := 21) rfl
          have f93 := zf hS_s4 ha (k := 22) rfl
          have f94 := zf hS_s4 ha (k := 23) rfl
          have f95 := zf hS_s4 ha (k := 24) rfl
          have f96 := zf hS_s4 ha (k := 38) rfl
          have f97 := zf hS_s4 ha (k := 51) rfl
          have f98 := zf hS_s4 ha (k := 52) rfl
          refine j_callV hx hG (c_X12_turnFor hst a (-1)) lk_RX12_453 ha (by decide) rfl rfl rfl rfl [.int (zI (-1))] ⟨rfl, hG, hS_s4, ha, (by omega), (by omega), (by omega)⟩ rfl rfl ⟨by decide, by decide⟩ ⟨by decide, by decide⟩ (k2 := 0) (n2 := 0) rfl rfl (Nat.le_of_ble_eq_true rfl) dX12_where_30 (kIM (fun v99 s26 hS_s26 hF_s26 q100 => ?_))
          refine j_if_eq hx 64 dX12_where_33 rfl (by omega) (fun h101 => ?_) (fun h101 => ?_)
          · skip
            refine j_aload_n hx 0 dX12_where_64 rfl ?_
            have g102 : zc (s26 (gP G a 46)) = zc (s2 (gP G a 46)) := by rw [hF_s26 (gP G a 46) (by rw [(zr (k := 46) (t2 := 99) hG ha rfl)]; decide), hF_s4 (gP G a 46) (by rw [(zr (k := 46) (t2 := 99) hG ha rfl)]; decide)]
            have g103 : s26 (gP G a 46) 488 = s2 (gP G a 46) 488 := (by rw [(zFr_g hF_s26 (zr (k := 46) (t2 := 99) hG ha rfl) (by decide)), (zFr_g hF_s4 (zr (k := 46) (t2 := 99) hG ha rfl) (by decide))])
            refine j_callV hx hG (c_X12_back hst a) lk_RX12_450 ha (by decide) rfl rfl rfl rfl [] ⟨rfl, hG, hS_s26, ha⟩ rfl rfl ⟨by decide, by decide⟩ ⟨by decide, by decide⟩ (k2 := 0) (n2 := 0) rfl rfl (Nat.le_of_ble_eq_true rfl) dX12_where_65 (kVM (fun s27 hS_s27 hF_s27 q105 => ?_))
            refine j_iload_n hx 3 dX12_where_68 rfl ?_
            have g106 : s27 a 3 = s26 a 3 := (by rw [(zFr_g hF_s27 ha (by decide))])
            have f107 := zf hS_s26 ha (k := 3) rfl
            have g108 : s27 a 4 = s26 a 4 := (by rw [(zFr_g hF_s27 ha (by decide))])
            have f109 := zf hS_s26 ha (k := 4) rfl
            have g110 : s27 a 5 = s26 a 5 := (by rw [(zFr_g hF_s27 ha (by decide))])
            have f111 := zf hS_s26 ha (k := 5) rfl
            have g112 : s27 a 7 = s26 a 7 := (by rw [(zFr_g hF_s27 ha (by decide))])
            have f113 := zf hS_s26 ha (k := 7) rfl
            have g114 : s27 a 21 = s26 a 21 := (by rw [(zFr_g hF_s27 ha (by decide))])
            have f115 := zf hS_s26 ha (k := 21) rfl
            have g116 : s27 a 22 = s26 a 22 := (by rw [(zFr_g hF_s27 ha (by decide))])
            have f117 := zf hS_s26 ha (k := 22) rfl
            have g118 : s27 a 23 = s26 a 23 := (by rw [(zFr_g hF_s27 ha (by decide))])
            have f119 := zf hS_s26 ha (k := 23) rfl
            have g120 : s27 a 24 = s26 a 24 := (by rw [(zFr_g hF_s27 ha (by decide))])
            have f121 := zf hS_s26 ha (k := 24) rfl
            have g122 : s27 a 38 = s26 a 38 := (by rw [(zFr_g hF_s27 ha (by decide))])
            have f123 := zf hS_s26 ha (k := 38) rfl
            have g124 : s27 a 51 = s26 a 51 := (by rw [(zFr_g hF_s27 ha (by decide))])
            have f125 := zf hS_s26 ha (k := 51) rfl
            have g126 : s27 a 52 = s26 a 52 := (by rw [(zFr_g hF_s27 ha (by decide))])
            have f127 := zf hS_s26 ha (k := 52) rfl
            exact j_iret hx hq rfl (by decide) (by decide) dX12_where_69 ⟨v6, rfl, rfl, hS_s27, (zFr_t (zFr_t (zFr_t (zFr_t (zFr_u zFr_rf e_s1 ha (by decide)) hF_s2 (by decide)) hF_s4 (by decide)) hF_s26 (by decide)) hF_s27 (by decide)), ⟨(by omega), by omega, by omega, by omega, by omega, by omega, by omega, by omega, by omega, by omega, by omega, by omega, by omega, by omega⟩⟩
          · skip
            refine j_aload_n hx 0 dX12_where_36 rfl ?_
            refine j_callV hx hG (c_X12_alikes hst a) lk_RX12_343 ha (by decide) rfl rfl rfl rfl [] ⟨rfl, hG, hS_s26, ha⟩ rfl rfl ⟨by decide, by decide⟩ ⟨by decide, by decide⟩ (k2 := 0) (n2 := 0) rfl rfl (Nat.le_of_ble_eq_true rfl) dX12_where_37 (kIP (fun v128 q129 => ?_))
            refine j_iconst hx dX12_where_40 ?_
            refine j_icmp_ne hx 47 dX12_where_41 rfl (by omega) ⟨by decide, by decide⟩ (fun h130 => ?_) (fun h130 => ?_)
            · skip
              refine j_iload_n hx 2 dX12_where_47 rfl ?_
              refine j_iload_n hx 1 dX12_where_48 rfl ?_
              refine j_icmp_ne hx 55 dX12_where_49 rfl (by omega) (by omega) (fun h131 => ?_) (fun h131 => ?_)
              · skip
                refine j_iincN hx 2 (fun v132 => [(2, .int (zI v132)), (0, .ref a), (1, .int (zI x1)), (3, .int (zI v6)), (4, .int (zI v7))]) dX12_where_55 rfl (by decide) (fun _ => rfl) (fun v132 f133 f134 f135 => ?_)
                refine j_iinc hx 4 [(4, .int (zI (v7 + 1))), (2, .int (zI v132)), (0, .ref a), (1, .int (zI x1)), (3, .int (zI v6))] dX12_where_58 rfl (by omega) (by decide) rfl ?_
                refine j_goto hx 16 dX12_where_61 rfl ?_
                have f136 := zf hS_s26 ha (k := 0) rfl
                have f137 := zf hS_s26 ha (k := 3) rfl
                have f138 := zf hS_s26 ha (k := 4) rfl
                have f139 := zf hS_s26 ha (k := 5) rfl
                have f140 := zf hS_s26 ha (k := 7) rfl
                have f141 := zf hS_s26 ha (k := 21) rfl
                have f142 := zf hS_s26 ha (k := 22) rfl
                have f143 := zf hS_s26 ha (k := 23) rfl
                have f144 := zf hS_s26 ha (k := 24) rfl
                have f145 := zf hS_s26 ha (k := 38) rfl
                have f146 := zf hS_s26 ha (k := 51) rfl
                have f147 := zf hS_s26 ha (k := 52) rfl
                exact j_sub [2, 3, 1, 4, 0] [(0, .ref a), (1, .int (zI x1)), (2, .int (zI v132)), (3, .int (zI v6)), (4, .int (zI (v7 + 1)))] rfl (ih_c16_3 v132 v6 (v7 + 1) s26 (by omega) (by omega) (by omega) (by omega) hS_s26 (zFr_t (zFr_t zFr_rf hF_s4 (by decide)) hF_s26 (by decide)) (by omega) (by omega) (by omega) (by omega) (by omega) (by omega) (by omega) (by omega) (by omega) (by omega) (by omega) (by omega) (by omega) (by omega))
              · skip
                refine j_iload hx 4 dX12_where_52 rfl ?_
                refine j_istore_n hx [(3, .int (zI v7)), (0, .ref a), (1, .int (zI x1)), (2, .int (zI v5)), (4, .int (zI v7))] dX12_where_54 (by decide) rfl ?_
                refine j_iincN hx 3 (fun v148 => [(2, .int (zI v148)), (3, .int (zI v7)), (0, .ref a), (1, .int (zI x1)), (4, .int (zI v7))]) dX12_where_55 rfl (by decide) (fun _ => rfl) (fun v148 f149 f150 f151 => ?_)
                refine j_iinc hx 4 [(4, .int (zI (v7 + 1))), (2, .int (zI v148)), (3, .int (zI v7)), (0, .ref a), (1, .int (zI x1))] dX12_where_58 rfl (by omega) (by decide) rfl ?_
                refine j_goto hx 16 dX12_where_61 rfl ?_
                have f152 := zf hS_s26 ha (k := 0) rfl
                have f153 := zf hS_s26 ha (k := 3) rfl
                have f154 := zf hS_s26 ha (k := 4) rfl
                have f155 := zf hS_s26 ha (k := 5) rfl
                have f156 := zf hS_s26 ha (k := 7) rfl
                have f157 := zf hS_s26 ha (k := 21) rfl
                have f158 := zf hS_s26 ha (k := 22) rfl
                have f159 := zf hS_s26 ha (k := 23) rfl
                have f160 := zf hS_s26 ha (k := 24) rfl
                have f161 := zf hS_s26 ha (k := 38) rfl
                have f162 := zf hS_s26 ha (k := 51) rfl
                have f163 := zf hS_s26 ha (k := 52) rfl
                exact j_sub [3, 4, 1, 2, 0] [(0, .ref a), (1, .int (zI x1)), (2, .int (zI v148)), (3, .int (zI v7)), (4, .int (zI (v7 + 1)))] rfl (ih_c16_3 v148 v7 (v7 + 1) s26 (by omega) (by omega) (by omega) (by omega) hS_s26 (zFr_t (zFr_t zFr_rf hF_s4 (by decide)) hF_s26 (by decide)) (by omega) (by omega) (by omega) (by omega) (by omega) (by omega) (by omega) (by omega) (by omega) (by omega) (by omega) (by omega) (by omega) (by omega))
            · skip
              refine j_goto hx 58 dX12_where_44 rfl ?_
              refine j_iinc hx 4 [(4, .int (zI (v7 + 1))), (0, .ref a), (1, .int (zI x1)), (2, .int (zI v5)), (3, .int (zI v6))] dX12_where_58 rfl (by omega) (by decide) rfl ?_
              refine j_goto hx 16 dX12_where_61 rfl ?_
              have f164 := zf hS_s26 ha (k := 0) rfl
              have f165 := zf hS_s26 ha (k := 3) rfl
              have f166 := zf hS_s26 ha (k := 4) rfl
              have f167 := zf hS_s26 ha (k := 5) rfl
              have f168 := zf hS_s26 ha (k := 7) rfl
              have f169 := zf hS_s26 ha (k := 21) rfl
              have f170 := zf hS_s26 ha (k := 22) rfl
              have f171 := zf hS_s26 ha (k := 23) rfl
              have f172 := zf hS_s26 ha (k := 24) rfl
              have f173 := zf hS_s26 ha (k := 38) rfl
              have f174 := zf hS_s26 ha (k := 51) rfl
              have f175 := zf hS_s26 ha (k := 52) rfl
              exact j_sub [1, 2, 3, 4, 0] [(0, .ref a), (1, .int (zI x1)), (2, .int (zI v5)), (3, .int (zI v6)), (4, .int (zI (v7 + 1)))] rfl (ih_c16_3 v5 v6 (v7 + 1) s26 (by omega) (by omega) (by omega) (by omega) hS_s26 (zFr_t (zFr_t zFr_rf hF_s4 (by decide)) hF_s26 (by decide)) (by omega) (by omega) (by omega) (by omega) (by omega) (by omega) (by omega) (by omega) (by omega) (by omega) (by omega) (by omega) (by omega) (by omega))
  exact j_sub [3, 4, 2, 1, 0] [(0, .ref a), (1, .int (zI x1)), (2, .int (zI 0)), (3, .int (zI (-1))), (4, .int (zI 0))] rfl (c16_3 (2147483648 * 4) 0 (-1) 0 s2 (by omega) (by omega) (by omega) (by omega) hS_s2 zFr_rf (by omega) (by omega) (by omega) (by omega) (by omega) (by omega) (by omega) (by omega) (by omega) (by omega) (by omega) (by omega) (by omega) (by omega))

set_option maxHeartbeats 1200000 in
set_option maxRecDepth 20000 in
theorem c_X12_isOther {E : zE} {l : Launch} (hst : l.stackTraces = false) (a : Nat) (x1 : Int) (x2 : Int) : Con E l yX12_isOther cX12_isOther 4 (some .boolean) { frames := 1, cells := 0, slots := 0, locals := 21 } (fun G s vs => vs = [.ref a, .int (zI x1), .int (zI x2)] ∧ zGK G ∧ zSK G s ∧ (gT G a = 13) ∧ (0 ≤ x1 ∧ x1 ≤ 2) ∧ ((-2147483648) ≤ x2 ∧ x2 ≤ 2147483647)) (fun G s _ => pI (fun r G2 s2 => G2 = G ∧ s2 = s ∧ (0 ≤ r ∧ r ≤ 1))) := by
  refine Con.mk hst (by decide) (fun G s vs h => by rw [h.1]; exact Nat.le_of_ble_eq_true rfl) ?_
  rintro X G s0 vs ⟨rfl, hG, hS0, ha, hx1, hx2⟩ rfl hx hq
  show JJ X E 4 G s0 0 0 [(0, .ref a), (1, .int (zI x1)), (2, .int (zI x2))] 0 []
  refine j_iconst hx dX12_isOther_0 ?_
  refine j_istore_n hx [(3, .int (zI 0)), (0, .ref a), (1, .int (zI x1)), (2, .int (zI x2))] dX12_isOther_1 (by decide) rfl ?_
  have c2_1 : ∀ (m_c2_1 : Nat) (v1 : Int), 2147483648 - v1 < m_c2_1 → (0 ≤ v1 ∧ v1 ≤ 3) → JJ X E 4 G s0 0 0 [(0, .ref a), (1, .int (zI x1)), (2, .int (zI x2)), (3, .int (zI v1))] 2 [] := by
    intro m_c2_1
    induction m_c2_1 with
    | zero => intro v1 hm_c2_1 fA2; exfalso; omega
    | succ m_c2_1 ih_c2_1 => 
      intro v1 hm_c2_1 fA2
      refine j_iload_n hx 3 dX12_isOther_2 rfl ?_
      refine j_aload_n hx 0 dX12_isOther_3 rfl ?_
      have f2 := zf hS0 ha (k := 24) rfl
      refine g13_24 hx hG ha kf_RX12_189 rfl dX12_isOther_4 ?_
      refine j_icmp_ge hx 32 dX12_isOther_7 rfl (by omega) (by omega) (fun h3 => ?_) (fun h3 => ?_)
      · skip
        refine j_iconst hx dX12_isOther_32 ?_
        exact j_zret hx hq rfl (by decide) (by decide) dX12_isOther_33 (by omega) ⟨0, rfl, rfl, rfl, (by omega)⟩
      · skip
        refine j_iload_n hx 3 dX12_isOther_10 rfl ?_
        refine j_iload_n hx 1 dX12_isOther_11 rfl ?_
        have c26_3 : JJ X E 4 G s0 0 0 [(0, .ref a), (1, .int (zI x1)), (2, .int (zI x2)), (3, .int (zI v1))] 26 [] := by
          refine j_iinc hx 3 [(3, .int (zI (v1 + 1))), (0, .ref a), (1, .int (zI x1)), (2, .int (zI x2))] dX12_isOther_26 rfl (by omega) (by decide) rfl ?_
          refine j_goto hx 2 dX12_isOther_29 rfl ?_
          exact j_sub [1, 2, 3, 0] [(0, .ref a), (1, .int (zI x1)), (2, .int (zI x2)), (3, .int (zI (v1 + 1)))] rfl (ih_c2_1 (v1 + 1) (by omega) (by omega))
        refine j_icmp_eq hx 26 dX12_isOther_12 rfl (by omega) (by omega) (fun h4 => ?_) (fun h4 => ?_)
        · skip
          exact j_sub [0, 1, 2, 3] [(0, .ref a), (1, .int (zI x1)), (2, .int (zI x2)), (3, .int (zI v1))] rfl (c26_3  )
        · skip
          refine j_aload_n hx 0 dX12_isOther_15 rfl ?_
          refine j_iload_n hx 3 dX12_isOther_16 rfl ?_
          refine j_callV hx hG (c_X12_top hst a v1) lk_RX12_334 ha (by decide) rfl rfl rfl rfl [.int (zI v1)] ⟨rfl, hG, hS0, ha, (by omega)⟩ rfl rfl ⟨by decide, by decide⟩ ⟨by decide, by decide⟩ (k2 := 0) (n2 := 0) rfl rfl (Nat.le_of_ble_eq_true rfl) dX12_isOther_17 (kIP (fun v5 q6 => ?_))
          refine j_iload_n hx 2 dX12_isOther_20 rfl ?_
          refine j_icmp_ne hx 26 dX12_isOther_21 rfl (by omega) (by omega) (fun h7 => ?_) (fun h7 => ?_)
          · skip
            exact j_sub [0, 1, 2, 3] [(0, .ref a), (1, .int (zI x1)), (2, .int (zI x2)), (3, .int (zI v1))] rfl (c26_3  )
          · skip
            refine j_iconst hx dX12_isOther_24 ?_
            exact j_zret hx hq rfl (by decide) (by decide) dX12_isOther_25 (by omega) ⟨1, rfl, rfl, rfl, (by omega)⟩
  exact j_sub [1, 2, 3, 0] [(0, .ref a), (1, .int (zI x1)), (2, .int (zI x2)), (3, .int (zI 0))] rfl (c2_1 (2147483648 * 4) 0 (by omega) (by omega))

set_option maxHeartbeats 1200000 in
set_option maxRecDepth 20000 in
theorem c_X12_divisor {E : zE} {l : Launch} (hst : l.stackTraces = false) (x0 : Int) (x1 : Int) : Con E l yX12_divisor cX12_divisor 5 (some .int) { frames := 0, cells := 0, slots := 0, locals := 0 } (fun G s vs => vs = [.int (zI x0), .int (zI x1)] ∧ zGK G ∧ zSK G s ∧ (0 ≤ x0 ∧ x0 ≤ 60) ∧ (0 ≤ x1 ∧ x1 ≤ 60) ∧ (1 ≤ x0 ∨ 1 ≤ x1)) (fun G s _ => pI (fun r G2 s2 => G2 = G ∧ s2 = s ∧ (1 ≤ r ∧ r ≤ 60))) := by
  refine Con.mk hst (by decide) (fun G s vs h => by rw [h.1]; exact Nat.le_of_ble_eq_true rfl) ?_
  rintro X G s0 vs ⟨rfl, hG, hS0, hx0, hx1, e0⟩ rfl hx hq
  show JJ X E 5 G s0 0 0 [(0, .int (zI x0)), (1, .int (zI x1))] 0 []
  refine j_iload_n hx 0 dX12_divisor_0 rfl ?_
  refine j_istore_n hx [(2, .int (zI x0)), (0, .int (zI x0)), (1, .int (zI x1))] dX12_divisor_1 (by decide) rfl ?_
  refine j_iload_n hx 2 dX12_divisor_2 rfl ?_
  refine j_istore_n hx [(3, .int (zI x1)), (2, .int (zI x0)), (0, .int (zI x0)), (1, .int (zI x1))] dX12_divisor_3 (by decide) rfl ?_
  have c4_1 : ∀ (m_c4_1 : Nat) (v1 : Int) (v2 : Int), v2 < m_c4_1 → (0 ≤ v1 ∧ v1 ≤ 60) → (0 ≤ v2 ∧ v2 ≤ 60) → (1 ≤ v1 ∨ 1 ≤ v2) → JJ X E 5 G s0 0 0 [(2, .int (zI v1)), (3, .int (zI v2))] 4 [] := by
    intro m_c4_1
    induction m_c4_1 with
    | zero => intro v1 v2 hm_c4_1 fA2 fA3 fA4; exfalso; omega
    | succ m_c4_1 ih_c4_1 => 
      intro v1 v2 hm_c4_1 fA2 fA3 fA4
      refine j_iload_n hx 1 dX12_divisor_4 rfl ?_
      refine j_if_eq hx 21 dX12_divisor_5 rfl (by omega) (fun h3 => ?_) (fun h3 => ?_)
      · skip
        refine j_iload_n hx 0 dX12_divisor_21 rfl ?_
        exact j_iret hx hq rfl (by decide) (by decide) dX12_divisor_22 ⟨v1, rfl, rfl, rfl, (by omega)⟩
      · skip
        refine j_iload_n hx 0 dX12_divisor_8 rfl ?_
        refine j_iload_n hx 1 dX12_divisor_9 rfl ?_
        refine j_irem hx dX12_divisor_10 (by omega) (by omega) (by omega) (fun v4 f5 f6 f7 f8 => ?_)
        have f10 : 0 ≤ v4 := by rw [f7 (by omega) (by omega)]; exact Int.emod_nonneg _ (by omega)
        refine j_istore hx [(4, .int (zI v4)), (2, .int (zI v1)), (3, .int (zI v2))] dX12_divisor_11 (by decide) rfl ?_
        refine j_iload_n hx 2 dX12_divisor_13 rfl ?_
        refine j_istore_n hx [(2, .int (zI v2)), (4, .int (zI v4)), (3, .int (zI v2))] dX12_divisor_14 (by decide) rfl ?_
        refine j_iload hx 1 dX12_divisor_15 rfl ?_
        refine j_istore_n hx [(3, .int (zI v4)), (2, .int (zI v2)), (4, .int (zI v4))] dX12_divisor_17 (by decide) rfl ?_
        refine j_goto hx 4 dX12_divisor_18 rfl ?_
        exact j_sub [1, 0] [(2, .int (zI v2)), (3, .int (zI v4))] rfl (ih_c4_1 v2 v4 (by omega) (by omega) (by omega) (by omega))
  exact j_sub [1, 0] [(2, .int (zI x0)), (3, .int (zI x1))] rfl (c4_1 (2147483648 * 4) x0 x1 (by omega) (by omega) (by omega) (by omega))

theorem lk_RX12_456 : LkS RX12 456 yX12_divisor cX12_divisor 5 (some .int) 2 := ⟨km_RX12_456, kst_yX12_divisor, kn_RX12, kc_yX12_divisor, by decide +kernel, by decide +kernel, by decide +kernel⟩
set_option maxHeartbeats 1200000 in
set_option maxRecDepth 20000 in
theorem c_X12_fraction {E : zE} {l : Launch} (hst : l.stackTraces = false) (x0 : Int) (x1 : Int) (x2 : Int) : Con E l yX12_fraction cX12_fraction 3 (some .int) { frames := 1, cells := 0, slots := 0, locals := 24 } (fun G s vs => vs = [.int (zI x0), .int (zI x1), .int (zI x2)] ∧ zGK G ∧ zSK G s ∧ (0 ≤ x0 ∧ x0 ≤ 60) ∧ (1 ≤ x1 ∧ x1 ≤ 60) ∧ (0 ≤ x2 ∧ x2 ≤ 1)) (fun G s _ => pI (fun r G2 s2 => G2 = G ∧ s2 = s ∧ (0 ≤ r ∧ r ≤ 60))) := by
  refine Con.mk hst (by decide) (fun G s vs h => by rw [h.1]; exact Nat.le_of_ble_eq_true rfl) ?_
  rintro X G s0 vs ⟨rfl, hG, hS0, hx0, hx1, hx2⟩ rfl hx hq
  show JJ X E 3 G s0 0 0 [(0, .int (zI x0)), (1, .int (zI x1)), (2, .int (zI x2))] 0 []
  refine j_iload_n hx 2 dX12_fraction_0 rfl ?_
  refine j_if_ne hx 8 dX12_fraction_1 rfl (by omega) (fun h1 => ?_) (fun h1 => ?_)
  · skip
    refine j_iload_n hx 1 dX12_fraction_8 rfl ?_
    refine j_iload_n hx 0 dX12_fraction_9 rfl ?_
    refine j_iload_n hx 1 dX12_fraction_10 rfl ?_
    refine j_callS hx (c_X12_divisor hst x0 x1) lk_RX12_456 [.int (zI x0), .int (zI x1)] ⟨rfl, hG, hS0, (by omega), (by omega), (by omega)⟩ rfl rfl ⟨by decide, by decide⟩ ⟨by decide, by decide⟩ (k2 := 0) (n2 := 0) rfl rfl (Nat.le_of_ble_eq_true rfl) dX12_fraction_11 (kIP (fun v2 q3 => ?_))
    refine j_idiv hx dX12_fraction_14 (by omega) (by omega) (by omega) (fun v4 f5 f6 f7 => ?_)
    exact j_iret hx hq rfl (by decide) (by decide) dX12_fraction_15 ⟨v4, rfl, rfl, rfl, (by omega)⟩
  · skip
    refine j_iload_n hx 0 dX12_fraction_4 rfl ?_
    refine j_goto hx 9 dX12_fraction_5 rfl ?_
    refine j_iload_n hx 0 dX12_fraction_9 rfl ?_
    refine j_iload_n hx 1 dX12_fraction_10 rfl ?_
    refine j_callS hx (c_X12_divisor hst x0 x1) lk_RX12_456 [.int (zI x0), .int (zI x1)] ⟨rfl, hG, hS0, (by omega), (by omega), (by omega)⟩ rfl rfl ⟨by decide, by decide⟩ ⟨by decide, by decide⟩ (k2 := 0) (n2 := 0) rfl rfl (Nat.le_of_ble_eq_true rfl) dX12_fraction_11 (kIP (fun v10 q11 => ?_))
    refine j_idiv hx dX12_fraction_14 (by omega) (by omega) (by omega) (fun v12 f13 f14 f15 => ?_)
    exact j_iret hx hq rfl (by decide) (by decide) dX12_fraction_15 ⟨v12, rfl, rfl, rfl, (by omega)⟩
