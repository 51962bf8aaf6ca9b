theorem lk_RX12_435 : LkV RX12 435 RX12 yX12_writes cX12_writes 5 none 1 := ⟨km_RX12_435, ki_yX12_writes, ks_RX12_yX12_writes, kn_RX12, kc_yX12_writes, rfl, by decide +kernel, by decide +kernel, by decide +kernel⟩
theorem lk_RX12_438 : LkV RX12 438 RX12 yX12_earlier cX12_earlier 5 (some .int) 1 := ⟨km_RX12_438, ki_yX12_earlier, ks_RX12_yX12_earlier, kn_RX12, kc_yX12_earlier, rfl, by decide +kernel, by decide +kernel, by decide +kernel⟩
set_option maxHeartbeats 4000000 in
set_option maxRecDepth 20000 in
theorem c_X12_findEnds {E : zE} {l : Launch} (hst : l.stackTraces = false) (a : Nat) : Con E l yX12_findEnds cX12_findEnds 2 none { frames := 3, cells := 0, slots := 0, locals := 66 } (fun G s vs => vs = [.ref a] ∧ zGK G ∧ zSK G s ∧ (gT G a = 13)) (fun G s _ => pV (fun G2 s2 => G2 = G ∧ zSK G s2 ∧ zFr [13, 101, 102, 103] G s s2 ∧ s2 a 51 = 1 ∧ s2 a 52 = 0 ∧ s2 a 53 = 0 ∧ s2 a 54 = -1 ∧ s2 a 0 = s a 0)) := by
  refine Con.mk hst (by decide) (fun G s vs h => by rw [h.1]; exact Nat.le_of_ble_eq_true rfl) ?_
  rintro X G s0 vs ⟨rfl, hG, hS0, ha⟩ rfl hx hq
  show JJ X E 2 G s0 0 0 [(0, .ref a)] 0 []
  refine j_iconst hx dX12_findEnds_0 ?_
  refine j_istore_n hx [(1, .int (zI 0)), (0, .ref a)] dX12_findEnds_1 (by decide) rfl ?_
  have c2_1 : ∀ (m_c2_1 : Nat) (v1 : Int) (s2 : zS), 2147483648 - v1 < m_c2_1 → (0 ≤ v1 ∧ v1 ≤ 8192) → (zSK G s2) → (zFr [103] G s0 s2) → (zAll s2 (gP G a 50) (v1).toNat (-1)) → JJ X E 2 G s2 0 0 [(0, .ref a), (1, .int (zI v1))] 2 [] := by
    intro m_c2_1
    induction m_c2_1 with
    | zero => intro v1 s2 hm_c2_1 f3 hS_s2 hF_s2 hB1; exfalso; omega
    | succ m_c2_1 ih_c2_1 => 
      intro v1 s2 hm_c2_1 f3 hS_s2 hF_s2 hB1
      refine j_iload_n hx 1 dX12_findEnds_2 rfl ?_
      refine j_sipush hx dX12_findEnds_3 rfl ?_
      refine j_icmp_ge hx 22 dX12_findEnds_6 rfl (by omega) ⟨by decide, by decide⟩ (fun h2 => ?_) (fun h2 => ?_)
      · skip
        refine j_aload_n hx 0 dX12_findEnds_22 rfl ?_
        refine j_iconst hx dX12_findEnds_23 ?_
        refine p13_53 hx hG ha kf_RX12_426 dX12_findEnds_24 ?_
        obtain ⟨s7, e_s7⟩ : ∃ z, z = zU s2 a 53 0 := ⟨_, rfl⟩
        rw [← e_s7]
        have hS_s7 : zSK G s7 := by rw [e_s7]; exact zSK_F hS_s2 ha rfl rfl rfl (by omega)
        refine j_aload_n hx 0 dX12_findEnds_27 rfl ?_
        refine j_iconst hx dX12_findEnds_28 ?_
        refine p13_52 hx hG ha kf_RX12_429 dX12_findEnds_29 ?_
        obtain ⟨s8, e_s8⟩ : ∃ z, z = zU s7 a 52 0 := ⟨_, rfl⟩
        rw [← e_s8]
        have hS_s8 : zSK G s8 := by rw [e_s8]; exact zSK_F hS_s7 ha rfl rfl rfl (by omega)
        refine j_aload_n hx 0 dX12_findEnds_32 rfl ?_
        refine j_aload_n hx 0 dX12_findEnds_33 rfl ?_
        refine j_callV hx hG (c_X12_isOver hst a) lk_RX12_328 ha (by decide) rfl rfl rfl rfl [] ⟨rfl, hG, hS_s8, ha⟩ rfl rfl ⟨by decide, by decide⟩ ⟨by decide, by decide⟩ (k2 := 0) (n2 := 0) rfl rfl (Nat.le_of_ble_eq_true rfl) dX12_findEnds_34 (kIP (fun v3 q4 => ?_))
        refine j_if_eq hx 44 dX12_findEnds_37 rfl (by omega) (fun h5 => absurd h5 (by omega)) (fun h5 => ?_)
        refine j_iconst hx dX12_findEnds_40 ?_
        refine j_goto hx 45 dX12_findEnds_41 rfl ?_
        refine p13_51 hx hG ha kf_RX12_432 dX12_findEnds_45 ?_
        obtain ⟨s9, e_s9⟩ : ∃ z, z = zU s8 a 51 1 := ⟨_, rfl⟩
        rw [← e_s9]
        have hS_s9 : zSK G s9 := by rw [e_s9]; exact zSK_F hS_s8 ha rfl rfl rfl (by omega)
        refine j_aload_n hx 0 dX12_findEnds_48 rfl ?_
        refine j_iconst hx dX12_findEnds_49 ?_
        refine j_callV hx hG (c_X12_writes hst a 0) lk_RX12_435 ha (by decide) rfl rfl rfl rfl [.int (zI 0)] ⟨rfl, hG, hS_s9, ha, (by omega)⟩ rfl rfl ⟨by decide, by decide⟩ ⟨by decide, by decide⟩ (k2 := 0) (n2 := 0) rfl rfl (Nat.le_of_ble_eq_true rfl) dX12_findEnds_50 (kVM (fun s10 hS_s10 hF_s10 q7 => ?_))
        refine j_aload_n hx 0 dX12_findEnds_53 rfl ?_
        refine j_iconst hx dX12_findEnds_54 ?_
        have g8 : s10 (gP G a 50) 8192 = s2 (gP G a 50) 8192 := (by rw [(zFr_g hF_s10 (zr (k := 50) (t2 := 103) hG ha rfl) (by decide)), e_s9, zU_at (Or.inl (zne ha (zr (k := 50) (t2 := 103) hG ha rfl) (by decide))), e_s8, zU_at (Or.inl (zne ha (zr (k := 50) (t2 := 103) hG ha rfl) (by decide))), e_s7, zU_at (Or.inl (zne ha (zr (k := 50) (t2 := 103) hG ha rfl) (by decide)))])
        refine j_callV hx hG (c_X12_earlier hst a 0) lk_RX12_438 ha (by decide) rfl rfl rfl rfl [.int (zI 0)] ⟨rfl, hG, hS_s10, ha, (by omega), ((zAll_f (zAll_u (zAll_u (zAll_u (zAll_le hB1 (show 8192 ≤ ((v1)).toNat by omega)) e_s7 (zne ha (zr (k := 50) (t2 := 103) hG ha rfl) (by decide))) e_s8 (zne ha (zr (k := 50) (t2 := 103) hG ha rfl) (by decide))) e_s9 (zne ha (zr (k := 50) (t2 := 103) hG ha rfl) (by decide))) hF_s10 (zr (k := 50) (t2 := 103) hG ha rfl) (by decide)))⟩ rfl rfl ⟨by decide, by decide⟩ ⟨by decide, by decide⟩ (k2 := 0) (n2 := 0) rfl rfl (Nat.le_of_ble_eq_true rfl) dX12_findEnds_55 (kIM (fun v9 s11 hS_s11 hF_s11 q10 => ?_))
        refine j_pop hx dX12_findEnds_58 rfl ?_
        refine j_aload_n hx 0 dX12_findEnds_59 rfl ?_
        refine g13_51 hx hG ha kf_RX12_432 (v := 1) (by rw [(zFr_g hF_s11 ha (by decide)), (zFr_g hF_s10 ha (by decide)), e_s9, zU_eq]) dX12_findEnds_60 ?_
        refine j_iconst hx dX12_findEnds_63 ?_
        refine j_icmp_ne hx 155 dX12_findEnds_64 rfl ⟨by decide, by decide⟩ ⟨by decide, by decide⟩ (fun h11 => ?_) (fun h11 => absurd h11 (by omega))
        refine j_aload_n hx 0 dX12_findEnds_155 rfl ?_
        refine j_iconst hx dX12_findEnds_156 ?_
        refine p13_54 hx hG ha kf_RX12_441 dX12_findEnds_157 ?_
        obtain ⟨s12, e_s12⟩ : ∃ z, z = zU s11 a 54 (-1) := ⟨_, rfl⟩
        rw [← e_s12]
        have hS_s12 : zSK G s12 := by rw [e_s12]; exact zSK_F hS_s11 ha rfl rfl rfl (by omega)
        refine j_iconst hx dX12_findEnds_160 ?_
        refine j_istore_n hx [(1, .int (zI 0)), (0, .ref a)] dX12_findEnds_161 (by decide) rfl ?_
        refine j_iload_n hx 0 dX12_findEnds_162 rfl ?_
        refine j_aload_n hx 1 dX12_findEnds_163 rfl ?_
        have f12 := zf hS0 ha (k := 24) rfl
        refine g13_24 hx hG ha kf_RX12_189 (v := (s0 a 24)) (by rw [e_s12, zU_at (Or.inr (by decide)), (zFr_g hF_s11 ha (by decide)), (zFr_g hF_s10 ha (by decide)), e_s9, zU_at (Or.inr (by decide)), e_s8, zU_at (Or.inr (by decide)), e_s7, zU_at (Or.inr (by decide)), (zFr_g hF_s2 ha (by decide))]) dX12_findEnds_164 ?_
        refine j_icmp_ge hx 204 dX12_findEnds_167 rfl ⟨by decide, by decide⟩ (by omega) (fun h13 => ?_) (fun h13 => absurd h13 (by omega))
        have g14 : s12 a 51 = 1 := (by rw [e_s12, zU_at (Or.inr (by decide)), (zFr_g hF_s11 ha (by decide)), (zFr_g hF_s10 ha (by decide)), e_s9, zU_eq])
        have g15 : s12 a 52 = 0 := (by rw [e_s12, zU_at (Or.inr (by decide)), (zFr_g hF_s11 ha (by decide)), (zFr_g hF_s10 ha (by decide)), e_s9, zU_at (Or.inr (by decide)), e_s8, zU_eq])
        have g16 : s12 a 53 = 0 := (by rw [e_s12, zU_at (Or.inr (by decide)), (zFr_g hF_s11 ha (by decide)), (zFr_g hF_s10 ha (by decide)), e_s9, zU_at (Or.inr (by decide)), e_s8, zU_at (Or.inr (by decide)), e_s7, zU_eq])
        have g17 : s12 a 54 = (-1) := (by rw [e_s12, zU_eq])
        have g18 : s12 a 0 = s0 a 0 := (by rw [e_s12, zU_at (Or.inr (by decide)), (zFr_g hF_s11 ha (by decide)), (zFr_g hF_s10 ha (by decide)), e_s9, zU_at (Or.inr (by decide)), e_s8, zU_at (Or.inr (by decide)), e_s7, zU_at (Or.inr (by decide)), (zFr_g hF_s2 ha (by decide))])
        have f19 := zf hS0 ha (k := 0) rfl
        exact j_vret hx hq rfl (by decide) (by decide) dX12_findEnds_204 ⟨rfl, rfl, hS_s12, (zFr_u (zFr_t (zFr_t (zFr_u (zFr_u (zFr_u (zFr_t zFr_rf hF_s2 (by decide)) e_s7 ha (by decide)) e_s8 ha (by decide)) e_s9 ha (by decide)) hF_s10 (by decide)) hF_s11 (by decide)) e_s12 ha (by decide)), ⟨by omega, by omega, by omega, by omega, by omega⟩⟩
      · skip
        refine j_aload_n hx 0 dX12_findEnds_9 rfl ?_
        refine g13_50 hx hG ha kf_RX12_115 dX12_findEnds_10 ?_
        refine j_iload_n hx 1 dX12_findEnds_13 rfl ?_
        refine j_iconst hx dX12_findEnds_14 ?_
        refine j_iast hx hG (zr (k := 50) (t2 := 103) hG ha rfl) (by decide) rfl (zlen hG (zr (k := 50) (t2 := 103) hG ha rfl) (n := 8192) rfl rfl) (by omega) (by omega) (j := (v1).toNat) rfl dX12_findEnds_15 ?_
        obtain ⟨s13, e_s13⟩ : ∃ z, z = zU s2 (gP G a 50) (v1).toNat (-1) := ⟨_, rfl⟩
        rw [← e_s13]
        have hS_s13 : zSK G s13 := by rw [e_s13]; exact zSK_A hS_s2 (zr (k := 50) (t2 := 103) hG ha rfl) rfl rfl rfl (by omega)
        refine j_iinc hx 1 [(1, .int (zI (v1 + 1))), (0, .ref a)] dX12_findEnds_16 rfl (by omega) (by decide) rfl ?_
        refine j_goto hx 2 dX12_findEnds_19 rfl ?_
        exact j_sub [1, 0] [(0, .ref a), (1, .int (zI (v1 + 1)))] rfl (ih_c2_1 (v1 + 1) s13 (by omega) (by omega) hS_s13 (zFr_u (zFr_t zFr_rf hF_s2 (by decide)) e_s13 (zr (k := 50) (t2 := 103) hG ha rfl) (by decide)) (zAll_s hB1 e_s13 (by omega)))
  exact j_sub [1, 0] [(0, .ref a), (1, .int (zI 0))] rfl (c2_1 (2147483648 * 4) 0 s0 (by omega) (by omega) hS0 zFr_rf (fun j hj => absurd hj (by omega)))

set_option maxHeartbeats 4000000 in
set_option maxRecDepth 20000 in
theorem c_X12_back {E : zE} {l : Launch} (hst : l.stackTraces = false) (a : Nat) : Con E l yX12_back cX12_back 2 none { frames := 0, cells := 0, slots := 0, locals := 0 } (fun G s vs => vs = [.ref a] ∧ zGK G ∧ zSK G s ∧ (gT G a = 13)) (fun G s _ => pV (fun G2 s2 => G2 = G ∧ zSK G s2 ∧ zFr [84, 87] G s s2 ∧ True)) := by
  refine Con.mk hst (by decide) (fun G s vs h => by rw [h.1]; exact Nat.le_of_ble_eq_true rfl) ?_
  rintro X G s0 vs ⟨rfl, hG, hS0, ha⟩ rfl hx hq
  show JJ X E 2 G s0 0 0 [(0, .ref a)] 0 []
  refine j_iconst hx dX12_back_0 ?_
  refine j_istore_n hx [(1, .int (zI 0)), (0, .ref a)] dX12_back_1 (by decide) rfl ?_
  have c2_1 : ∀ (m_c2_1 : Nat) (v1 : Int) (s2 : zS), 2147483648 - v1 < m_c2_1 → (0 ≤ v1 ∧ v1 ≤ 515) → (zSK G s2) → (zFr [84] G s0 s2) → JJ X E 2 G s2 0 0 [(0, .ref a), (1, .int (zI v1))] 2 [] := by
    intro m_c2_1
    induction m_c2_1 with
    | zero => intro v1 s2 hm_c2_1 f3 hS_s2 hF_s2; exfalso; omega
    | succ m_c2_1 ih_c2_1 => 
      intro v1 s2 hm_c2_1 f3 hS_s2 hF_s2
      refine j_iload_n hx 1 dX12_back_2 rfl ?_
      refine j_sipush hx dX12_back_3 rfl ?_
      refine j_icmp_ge hx 27 dX12_back_6 rfl (by omega) ⟨by decide, by decide⟩ (fun h2 => ?_) (fun h2 => ?_)
      · skip
        refine j_iconst hx dX12_back_27 ?_
        refine j_istore_n hx [(1, .int (zI 0)), (0, .ref a)] dX12_back_28 (by decide) rfl ?_
        have c29_6 : ∀ (m_c29_6 : Nat) (v3 : Int) (s7 : zS), 2147483648 - v3 < m_c29_6 → (0 ≤ v3 ∧ v3 ≤ 5) → (zSK G s7) → (zFr [87] G s2 s7) → JJ X E 2 G s7 0 0 [(0, .ref a), (1, .int (zI v3))] 29 [] := by
          intro m_c29_6
          induction m_c29_6 with
          | zero => intro v3 s7 hm_c29_6 f8 hS_s7 hF_s7; exfalso; omega
          | succ m_c29_6 ih_c29_6 => 
            intro v3 s7 hm_c29_6 f8 hS_s7 hF_s7
            refine j_iload_n hx 1 dX12_back_29 rfl ?_
            refine j_iconst hx dX12_back_30 ?_
            refine j_icmp_ge hx 52 dX12_back_31 rfl (by omega) ⟨by decide, by decide⟩ (fun h4 => ?_) (fun h4 => ?_)
            · skip
              exact j_vret hx hq rfl (by decide) (by decide) dX12_back_52 ⟨rfl, rfl, hS_s7, (zFr_t (zFr_t zFr_rf hF_s2 (by decide)) hF_s7 (by decide)), trivial⟩
            · skip
              refine j_aload_n hx 0 dX12_back_34 rfl ?_
              refine g13_30 hx hG ha kf_RX12_65 dX12_back_35 ?_
              refine j_iload_n hx 1 dX12_back_38 rfl ?_
              refine j_aload_n hx 0 dX12_back_39 rfl ?_
              refine g13_47 hx hG ha kf_RX12_105 dX12_back_40 ?_
              refine j_iload_n hx 1 dX12_back_43 rfl ?_
              have f5 := zaI (j := (v3).toNat) hS0 (zr (k := 47) (t2 := 100) hG ha rfl) rfl (zlen hG (zr (k := 47) (t2 := 100) hG ha rfl) (n := 5) rfl rfl) (show 0 ≤ v3 by omega) (by omega) rfl
              refine j_iald hx hG (zr (k := 47) (t2 := 100) hG ha rfl) (by decide) rfl (zlen hG (zr (k := 47) (t2 := 100) hG ha rfl) (n := 5) rfl rfl) (by omega) (by omega) (j := (v3).toNat) rfl (v := (s0 (gP G a 47) (v3).toNat)) (by rw [(zFr_g hF_s7 (zr (k := 47) (t2 := 100) hG ha rfl) (by decide)), (zFr_g hF_s2 (zr (k := 47) (t2 := 100) hG ha rfl) (by decide))]) dX12_back_44 ?_
              refine j_iast hx hG (zr (k := 30) (t2 := 87) hG ha rfl) (by decide) rfl (zlen hG (zr (k := 30) (t2 := 87) hG ha rfl) (n := 5) rfl rfl) (by omega) (by omega) (j := (v3).toNat) rfl dX12_back_45 ?_
              obtain ⟨s11, e_s11⟩ : ∃ z, z = zU s7 (gP G a 30) (v3).toNat ((s0 (gP G a 47) (v3).toNat)) := ⟨_, rfl⟩
              rw [← e_s11]
              have hS_s11 : zSK G s11 := by rw [e_s11]; exact zSK_A hS_s7 (zr (k := 30) (t2 := 87) hG ha rfl) rfl rfl rfl (by omega)
              refine j_iinc hx 1 [(1, .int (zI (v3 + 1))), (0, .ref a)] dX12_back_46 rfl (by omega) (by decide) rfl ?_
              refine j_goto hx 29 dX12_back_49 rfl ?_
              exact j_sub [1, 0] [(0, .ref a), (1, .int (zI (v3 + 1)))] rfl (ih_c29_6 (v3 + 1) s11 (by omega) (by omega) hS_s11 (zFr_u (zFr_t zFr_rf hF_s7 (by decide)) e_s11 (zr (k := 30) (t2 := 87) hG ha rfl) (by decide)))
        exact j_sub [1, 0] [(0, .ref a), (1, .int (zI 0))] rfl (c29_6 (2147483648 * 4) 0 s2 (by omega) (by omega) hS_s2 zFr_rf)
      · skip
        refine j_aload_n hx 0 dX12_back_9 rfl ?_
        refine g13_27 hx hG ha kf_RX12_56 dX12_back_10 ?_
        refine j_iload_n hx 1 dX12_back_13 rfl ?_
        refine j_aload_n hx 0 dX12_back_14 rfl ?_
        refine g13_46 hx hG ha kf_RX12_102 dX12_back_15 ?_
        refine j_iload_n hx 1 dX12_back_18 rfl ?_
        have f6 := zah (j := (v1).toNat) hS0 (zr (k := 46) (t2 := 99) hG ha rfl) aqH_99 (zlen hG (zr (k := 46) (t2 := 99) hG ha rfl) (n := 515) rfl rfl) (show 0 ≤ v1 by omega) (by omega) rfl
        refine j_iald hx hG (zr (k := 46) (t2 := 99) hG ha rfl) (by decide) rfl (zlen hG (zr (k := 46) (t2 := 99) hG ha rfl) (n := 515) rfl rfl) (by omega) (by omega) (j := (v1).toNat) rfl (v := (s0 (gP G a 46) (v1).toNat)) (by rw [(zFr_g hF_s2 (zr (k := 46) (t2 := 99) hG ha rfl) (by decide))]) dX12_back_19 ?_
        refine j_iast hx hG (zr (k := 27) (t2 := 84) hG ha rfl) (by decide) rfl (zlen hG (zr (k := 27) (t2 := 84) hG ha rfl) (n := 515) rfl rfl) (by omega) (by omega) (j := (v1).toNat) rfl dX12_back_20 ?_
        obtain ⟨s12, e_s12⟩ : ∃ z, z = zU s2 (gP G a 27) (v1).toNat ((s0 (gP G a 46) (v1).toNat)) := ⟨_, rfl⟩
        rw [← e_s12]
        have hS_s12 : zSK G s12 := by rw [e_s12]; exact zSK_a hS_s2 (zr (k := 27) (t2 := 84) hG ha rfl) rfl rfl (aqD_84 _ (by omega)) (by omega)
        refine j_iinc hx 1 [(1, .int (zI (v1 + 1))), (0, .ref a)] dX12_back_21 rfl (by omega) (by decide) rfl ?_
        refine j_goto hx 2 dX12_back_24 rfl ?_
        exact j_sub [1, 0] [(0, .ref a), (1, .int (zI (v1 + 1)))] rfl (ih_c2_1 (v1 + 1) s12 (by omega) (by omega) hS_s12 (zFr_u (zFr_t zFr_rf hF_s2 (by decide)) e_s12 (zr (k := 27) (t2 := 84) hG ha rfl) (by decide)))
  exact j_sub [1, 0] [(0, .ref a), (1, .int (zI 0))] rfl (c2_1 (2147483648 * 4) 0 s0 (by omega) (by omega) hS0 zFr_rf)

theorem lk_RX12_444 : LkV RX12 444 RX12 yX12_keeps cX12_keeps 2 none 0 := ⟨km_RX12_444, ki_yX12_keeps, ks_RX12_yX12_keeps, kn_RX12, kc_yX12_keeps, rfl, by decide +kernel, by decide +kernel, by decide +kernel⟩
theorem lk_RX12_447 : LkV RX12 447 RX12 yX12_findEnds cX12_findEnds 2 none 0 := ⟨km_RX12_447, ki_yX12_findEnds, ks_RX12_yX12_findEnds, kn_RX12, kc_yX12_findEnds, rfl, by decide +kernel, by decide +kernel, by decide +kernel⟩
theorem lk_RX12_450 : LkV RX12 450 RX12 yX12_back cX12_back 2 none 0 := ⟨km_RX12_450, ki_yX12_back, ks_RX12_yX12_back, kn_RX12, kc_yX12_back, rfl, by decide +kernel, by decide +kernel, by decide +kernel⟩
set_option maxHeartbeats 4000000 in
set_option maxRecDepth 20000 in
theorem c_X12_ends {E : zE} {l : Launch} (hst : l.stackTraces = false) (a : Nat) (x1 : Int) : Con E l yX12_ends cX12_ends 2 (some .int) { frames := 4, cells := 0, slots := 0, locals := 87 } (fun G s vs => vs = [.ref a, .int (zI x1)] ∧ zGK G ∧ zSK G s ∧ (gT G a = 13) ∧ ((-2147483648) ≤ x1 ∧ x1 ≤ 2147483647) ∧ (zS0m G s)) (fun G s _ => pI (fun r G2 s2 => G2 = G ∧ zSK G s2 ∧ zFr [13, 71, 84, 87, 99, 100, 101, 102, 103] G s s2 ∧ ((-1) ≤ r ∧ r ≤ 1) ∧ (((0 ≤ x1 ∧ x1 ≤ 3) → s2 a 0 = 0 ∧ ((x1 = 0 → r = -1) ∧ (x1 = 1 → r = 0) ∧ (x1 = 2 → r = 1) ∧ (x1 = 3 → r = 0))) ∧ (¬ (0 ≤ x1 ∧ x1 ≤ 3) → s2 a 0 = 1)))) := by
  refine Con.mk hst (by decide) (fun G s vs h => by rw [h.1]; exact Nat.le_of_ble_eq_true rfl) ?_
  rintro X G s0 vs ⟨rfl, hG, hS0, ha, hx1, hF0⟩ rfl hx hq
  show JJ X E 2 G s0 0 0 [(0, .ref a), (1, .int (zI x1))] 0 []
  refine j_aload_n hx 0 dX12_ends_0 rfl ?_
  refine j_iconst hx dX12_ends_1 ?_
  refine p13_0 hx hG ha kf_RX12_3 dX12_ends_2 ?_
  obtain ⟨s1, e_s1⟩ : ∃ z, z = zU s0 a 0 0 := ⟨_, rfl⟩
  rw [← e_s1]
  have hS_s1 : zSK G s1 := by rw [e_s1]; exact zSK_F hS0 ha rfl rfl rfl (by omega)
  refine j_aload_n hx 0 dX12_ends_5 rfl ?_
  refine j_iload_n hx 1 dX12_ends_6 rfl ?_
  refine j_iconst hx dX12_ends_7 ?_
  refine j_iconst hx dX12_ends_8 ?_
  refine j_callS hx (c_X12_within hst x1 0 3) lk_RX12_314 [.int (zI x1), .int (zI 0), .int (zI 3)] ⟨rfl, hG, hS_s1, (by omega), (by omega), (by omega)⟩ rfl rfl ⟨by decide, by decide⟩ ⟨by decide, by decide⟩ (k2 := 0) (n2 := 0) rfl rfl (Nat.le_of_ble_eq_true rfl) dX12_ends_9 (kIP (fun v1 q2 => ?_))
  refine j_iconst hx dX12_ends_12 ?_
  refine j_iconst hx dX12_ends_13 ?_
  refine j_callV hx hG (c_X12_may hst a v1 1 1) lk_RX12_240 ha (by decide) rfl rfl rfl rfl [.int (zI v1), .int (zI 1), .int (zI 1)] ⟨rfl, hG, hS_s1, ha, (by omega), (by omega), (by omega)⟩ rfl rfl ⟨by decide, by decide⟩ ⟨by decide, by decide⟩ (k2 := 0) (n2 := 0) rfl rfl (Nat.le_of_ble_eq_true rfl) dX12_ends_14 (kIM (fun v3 s2 hS_s2 hF_s2 q4 => ?_))
  refine j_if_ne hx 22 dX12_ends_17 rfl (by omega) (fun h5 => ?_) (fun h5 => ?_)
  · skip
    refine j_aload_n hx 0 dX12_ends_22 rfl ?_
    refine j_callV hx hG (c_X12_keeps hst a) lk_RX12_444 ha (by decide) rfl rfl rfl rfl [] ⟨rfl, hG, hS_s2, ha⟩ rfl rfl ⟨by decide, by decide⟩ ⟨by decide, by decide⟩ (k2 := 0) (n2 := 0) rfl rfl (Nat.le_of_ble_eq_true rfl) dX12_ends_23 (kVM (fun s3 hS_s3 hF_s3 q7 => ?_))
    refine j_aload_n hx 0 dX12_ends_26 rfl ?_
    refine j_callV hx hG (c_X12_findEnds hst a) lk_RX12_447 ha (by decide) rfl rfl rfl rfl [] ⟨rfl, hG, hS_s3, ha⟩ rfl rfl ⟨by decide, by decide⟩ ⟨by decide, by decide⟩ (k2 := 0) (n2 := 0) rfl rfl (Nat.le_of_ble_eq_true rfl) dX12_ends_27 (kVM (fun s4 hS_s4 hF_s4 q9 => ?_))
    refine j_aload_n hx 0 dX12_ends_30 rfl ?_
    refine j_callV hx hG (c_X12_back hst a) lk_RX12_450 ha (by decide) rfl rfl rfl rfl [] ⟨rfl, hG, hS_s4, ha⟩ rfl rfl ⟨by decide, by decide⟩ ⟨by decide, by decide⟩ (k2 := 0) (n2 := 0) rfl rfl (Nat.le_of_ble_eq_true rfl) dX12_ends_31 (kVM (fun s5 hS_s5 hF_s5 q11 => ?_))
    refine j_iload_n hx 1 dX12_ends_34 rfl ?_
    refine j_if_ne hx 45 dX12_ends_35 rfl (by omega) (fun h12 => ?_) (fun h12 => ?_)
    · skip
      refine j_iload_n hx 1 dX12_ends_45 rfl ?_
      refine j_iconst hx dX12_ends_46 ?_
      refine j_icmp_ne hx 57 dX12_ends_47 rfl (by omega) ⟨by decide, by decide⟩ (fun h13 => ?_) (fun h13 => ?_)
      · skip
        refine j_iload_n hx 1 dX12_ends_57 rfl ?_
        refine j_iconst hx dX12_ends_58 ?_
        refine j_icmp_ne hx 69 dX12_ends_59 rfl (by omega) ⟨by decide, by decide⟩ (fun h14 => ?_) (fun h14 => ?_)
        · skip
          refine j_aload_n hx 0 dX12_ends_69 rfl ?_
          refine g13_53 hx hG ha kf_RX12_426 (v := (s4 a 53)) (by rw [(zFr_g hF_s5 ha (by decide))]) dX12_ends_70 ?_
          have g15 : s5 a 0 = s4 a 0 := (by rw [(zFr_g hF_s5 ha (by decide))])
          have f16 := zf hS_s4 ha (k := 0) rfl
          exact j_iret hx hq rfl (by decide) (by decide) dX12_ends_73 ⟨(s4 a 53), rfl, rfl, hS_s5, (zFr_t (zFr_t (zFr_t (zFr_t (zFr_u zFr_rf e_s1 ha (by decide)) hF_s2 (by decide)) hF_s3 (by decide)) hF_s4 (by decide)) hF_s5 (by decide)), ⟨(by omega), by omega⟩⟩
        · skip
          refine j_aload_n hx 0 dX12_ends_62 rfl ?_
          refine g13_51 hx hG ha kf_RX12_432 (v := (s4 a 51)) (by rw [(zFr_g hF_s5 ha (by decide))]) dX12_ends_63 ?_
          refine j_goto hx 73 dX12_ends_66 rfl ?_
          have g17 : s5 a 0 = s4 a 0 := (by rw [(zFr_g hF_s5 ha (by decide))])
          have f18 := zf hS_s4 ha (k := 0) rfl
          exact j_iret hx hq rfl (by decide) (by decide) dX12_ends_73 ⟨(s4 a 51), rfl, rfl, hS_s5, (zFr_t (zFr_t (zFr_t (zFr_t (zFr_u zFr_rf e_s1 ha (by decide)) hF_s2 (by decide)) hF_s3 (by decide)) hF_s4 (by decide)) hF_s5 (by decide)), ⟨(by omega), by omega⟩⟩
      · skip
        refine j_aload_n hx 0 dX12_ends_50 rfl ?_
        refine g13_52 hx hG ha kf_RX12_429 (v := (s4 a 52)) (by rw [(zFr_g hF_s5 ha (by decide))]) dX12_ends_51 ?_
        refine j_goto hx 73 dX12_ends_54 rfl ?_
        have g19 : s5 a 0 = s4 a 0 := (by rw [(zFr_g hF_s5 ha (by decide))])
        have f20 := zf hS_s4 ha (k := 0) rfl
        exact j_iret hx hq rfl (by decide) (by decide) dX12_ends_73 ⟨(s4 a 52), rfl, rfl, hS_s5, (zFr_t (zFr_t (zFr_t (zFr_t (zFr_u zFr_rf e_s1 ha (by decide)) hF_s2 (by decide)) hF_s3 (by decide)) hF_s4 (by decide)) hF_s5 (by decide)), ⟨(by omega), by omega⟩⟩
    · skip
      refine j_aload_n hx 0 dX12_ends_38 rfl ?_
      refine g13_54 hx hG ha kf_RX12_441 (v := (s4 a 54)) (by rw [(zFr_g hF_s5 ha (by decide))]) dX12_ends_39 ?_
      refine j_goto hx 73 dX12_ends_42 rfl ?_
      have g21 : s5 a 0 = s4 a 0 := (by rw [(zFr_g hF_s5 ha (by decide))])
      have f22 := zf hS_s4 ha (k := 0) rfl
      exact j_iret hx hq rfl (by decide) (by decide) dX12_ends_73 ⟨(s4 a 54), rfl, rfl, hS_s5, (zFr_t (zFr_t (zFr_t (zFr_t (zFr_u zFr_rf e_s1 ha (by decide)) hF_s2 (by decide)) hF_s3 (by decide)) hF_s4 (by decide)) hF_s5 (by decide)), ⟨(by omega), by omega⟩⟩
  · skip
    refine j_iconst hx dX12_ends_20 ?_
    have f23 := zf hS_s2 ha (k := 0) rfl
    exact j_iret hx hq rfl (by decide) (by decide) dX12_ends_21 ⟨0, rfl, rfl, hS_s2, (zFr_t (zFr_u zFr_rf e_s1 ha (by decide)) hF_s2 (by decide)), ⟨(by omega), by omega⟩⟩

set_option maxHeartbeats 4000000 in
set_option maxRecDepth 20000 in
theorem c_X12_turnFor {E : zE} {l : Launch} (hst : l.stackTraces = false) (a : Nat) (x1 : Int) : Con E l yX12_turnFor cX12_turnFor 4 (some .boolean) { frames := 2, cells := 0, slots := 0, locals := 42 } (fun G s vs => vs = [.ref a, .int (zI x1)] ∧ zGK G ∧ zSK G s ∧ (gT G a = 13) ∧ ((-2147483648) ≤ x1 ∧ x1 ≤ 2147483647)) (fun G s _ => pI (fun r G2 s2 => G2 = G ∧ s2 = s ∧ (0 ≤ r ∧ r ≤ 0))) := by
  refine Con.mk hst (by decide) (fun G s vs h => by rw [h.1]; exact Nat.le_of_ble_eq_true rfl) ?_
  rintro X G s0 vs ⟨rfl, hG, hS0, ha, hx1⟩ rfl hx hq
  show JJ X E 4 G s0 0 0 [(0, .ref a), (1, .int (zI x1))] 0 []
  refine j_aload_n hx 0 dX12_turnFor_0 rfl ?_
  refine j_callV hx hG (c_X12_whose hst a) lk_RX12_336 ha (by decide) rfl rfl rfl rfl [] ⟨rfl, hG, hS0, ha⟩ rfl rfl ⟨by decide, by decide⟩ ⟨by decide, by decide⟩ (k2 := 0) (n2 := 0) rfl rfl (Nat.le_of_ble_eq_true rfl) dX12_turnFor_1 (kIP (fun v1 q2 => ?_))
  refine j_istore_n hx [(2, .int (zI v1)), (0, .ref a), (1, .int (zI x1))] dX12_turnFor_4 (by decide) rfl ?_
  refine j_iload_n hx 0 dX12_turnFor_5 rfl ?_
  refine j_iconst hx dX12_turnFor_6 ?_
  refine j_icmp_ne hx 12 dX12_turnFor_7 rfl (by omega) ⟨by decide, by decide⟩ (fun h3 => absurd h3 (by omega)) (fun h3 => ?_)
  refine j_iconst hx dX12_turnFor_10 ?_
  exact j_zret hx hq rfl (by decide) (by decide) dX12_turnFor_11 (by omega) ⟨0, rfl, rfl, rfl, (by omega)⟩

theorem lk_RX12_453 : LkV RX12 453 RX12 yX12_turnFor cX12_turnFor 4 (some .boolean) 1 := ⟨km_RX12_453, ki_yX12_turnFor, ks_RX12_yX12_turnFor, kn_RX12, kc_yX12_turnFor, rfl, by decide +kernel, by decide +kernel, by decide +kernel⟩
set_option maxHeartbeats 4000000 in
set_option maxRecDepth 20000 in
theorem c_X12_where {E : zE} {l : Launch} (hst : l.stackTraces = false) (a : Nat) (x1 : Int) : Con E l yX12_where cX12_where 5 (some .int) { frames := 3, cells := 0, slots := 0, locals := 65 } (fun G s vs => vs = [.ref a, .int (zI x1)] ∧ zGK G ∧ zSK G s ∧ (gT G a = 13) ∧ ((-2147483648) ≤ x1 ∧ x1 ≤ 2147483647) ∧ (zS0m G s)) (fun G s _ => pI (fun r G2 s2 => G2 = G ∧ zSK G s2 ∧ zFr [13, 84, 87, 99, 100] G s s2 ∧ ((-1) ≤ r ∧ r ≤ (-1)) ∧ s2 a 0 = 0)) := by
  refine Con.mk hst (by decide) (fun G s vs h => by rw [h.1]; exact Nat.le_of_ble_eq_true rfl) ?_
  rintro X G s0 vs ⟨rfl, hG, hS0, ha, hx1, hF0⟩ rfl hx hq
  show JJ X E 5 G s0 0 0 [(0, .ref a), (1, .int (zI x1))] 0 []
  refine j_aload_n hx 0 dX12_where_0 rfl ?_
  refine j_iconst hx dX12_where_1 ?_
  refine p13_0 hx hG ha kf_RX12_3 dX12_where_2 ?_
  obtain ⟨s1, e_s1⟩ : ∃ z, z = zU s0 a 0 0 := ⟨_, rfl⟩
  rw [← e_s1]
  have hS_s1 : zSK G s1 := by rw [e_s1]; exact zSK_F hS0 ha rfl rfl rfl (by omega)
  refine j_aload_n hx 0 dX12_where_5 rfl ?_
  refine j_callV hx hG (c_X12_keeps hst a) lk_RX12_444 ha (by decide) rfl rfl rfl rfl [] ⟨rfl, hG, hS_s1, ha⟩ rfl rfl ⟨by decide, by decide⟩ ⟨by decide, by decide⟩ (k2 := 0) (n2 := 0) rfl rfl (Nat.le_of_ble_eq_true rfl) dX12_where_6 (kVM (fun s2 hS_s2 hF_s2 q2 => ?_))
  refine j_iconst hx dX12_where_9 ?_
  refine j_istore_n hx [(2, .int (zI 0)), (0, .ref a), (1, .int (zI x1))] dX12_where_10 (by decide) rfl ?_
  refine j_iconst hx dX12_where_11 ?_
  refine j_istore_n hx [(3, .int (zI (-1))), (2, .int (zI 0)), (0, .ref a), (1, .int (zI x1))] dX12_where_12 (by decide) rfl ?_
  refine j_iconst hx dX12_where_13 ?_
  refine j_istore hx [(4, .int (zI 0)), (3, .int (zI (-1))), (2, .int (zI 0)), (0, .ref a), (1, .int (zI x1))] dX12_where_14 (by decide) rfl ?_
  refine j_iload hx 0 dX12_where_16 rfl ?_
  refine j_bipush hx dX12_where_18 rfl ?_
  refine j_icmp_ge hx 64 dX12_where_20 rfl ⟨by decide, by decide⟩ ⟨by decide, by decide⟩ (fun h3 => absurd h3 (by omega)) (fun h3 => ?_)
  refine j_iload_n hx 1 dX12_where_23 rfl ?_
  refine j_iconst hx dX12_where_24 ?_
  refine j_icmp_ne hx 64 dX12_where_25 rfl ⟨by decide, by decide⟩ ⟨by decide, by decide⟩ (fun h4 => absurd h4 (by omega)) (fun h4 => ?_)
  refine j_aload_n hx 3 dX12_where_28 rfl ?_
  refine j_iconst hx dX12_where_29 ?_
  refine j_callV hx hG (c_X12_turnFor hst a (-1)) lk_RX12_453 ha (by decide) rfl rfl rfl rfl [.int (zI (-1))] ⟨rfl, hG, hS_s2, ha, (by omega)⟩ rfl rfl ⟨by decide, by decide⟩ ⟨by decide, by decide⟩ (k2 := 0) (n2 := 0) rfl rfl (Nat.le_of_ble_eq_true rfl) dX12_where_30 (kIP (fun v5 q6 => ?_))
  refine j_if_eq hx 64 dX12_where_33 rfl (by omega) (fun h7 => ?_) (fun h7 => absurd h7 (by omega))
  refine j_aload_n hx 3 dX12_where_64 rfl ?_
  refine j_callV hx hG (c_X12_back hst a) lk_RX12_450 ha (by decide) rfl rfl rfl rfl [] ⟨rfl, hG, hS_s2, ha⟩ rfl rfl ⟨by decide, by decide⟩ ⟨by decide, by decide⟩ (k2 := 0) (n2 := 0) rfl rfl (Nat.le_of_ble_eq_true rfl) dX12_where_65 (kVM (fun s3 hS_s3 hF_s3 q9 => ?_))
  refine j_iload_n hx 1 dX12_where_68 rfl ?_
  have g10 : s3 a 0 = 0 := (by rw [(zFr_g hF_s3 ha (by decide)), (zFr_g hF_s2 ha (by decide)), e_s1, zU_eq])
  exact j_iret hx hq rfl (by decide) (by decide) dX12_where_69 ⟨(-1), rfl, rfl, hS_s3, (zFr_t (zFr_t (zFr_u zFr_rf e_s1 ha (by decide)) hF_s2 (by decide)) hF_s3 (by decide)), ⟨(by omega), by omega⟩⟩

set_option maxHeartbeats 4000000 in
set_option maxRecDepth 20000 in
theorem c_X12_chance {E : zE} {l : Launch} (hst : l.stackTraces = false) (a : Nat) (x1 : Int) (x2 : Int) (x3 : Int) : Con E l yX12_chance cX12_chance 9 (some .int) { frames := 2, cells := 0, slots := 0, locals := 45 } (fun G s vs => vs = [.ref a, .int (zI x1), .int (zI x2), .int (zI x3)] ∧ zGK G ∧ zSK G s ∧ (gT G a = 13) ∧ ((-2147483648) ≤ x1 ∧ x1 ≤ 2147483647) ∧ ((-2147483648) ≤ x2 ∧ x2 ≤ 2147483647) ∧ ((-2147483648) ≤ x3 ∧ x3 ≤ 2147483647) ∧ (zS0m G s)) (fun G s _ => pI (fun r G2 s2 => G2 = G ∧ zSK G s2 ∧ zFr [13, 71] G s s2 ∧ ((-2147483648) ≤ r ∧ r ≤ 2147483647) ∧ s2 a 0 = 1)) := by
  refine Con.mk hst (by decide) (fun G s vs h => by rw [h.1]; exact Nat.le_of_ble_eq_true rfl) ?_
  rintro X G s0 vs ⟨rfl, hG, hS0, ha, hx1, hx2, hx3, hF0⟩ rfl hx hq
  show JJ X E 9 G s0 0 0 [(0, .ref a), (1, .int (zI x1)), (2, .int (zI x2)), (3, .int (zI x3))] 0 []
  refine j_aload_n hx 0 dX12_chance_0 rfl ?_
  refine j_iconst hx dX12_chance_1 ?_
  refine p13_0 hx hG ha kf_RX12_3 dX12_chance_2 ?_
  obtain ⟨s1, e_s1⟩ : ∃ z, z = zU s0 a 0 0 := ⟨_, rfl⟩
  rw [← e_s1]
  have hS_s1 : zSK G s1 := by rw [e_s1]; exact zSK_F hS0 ha rfl rfl rfl (by omega)
  refine j_aload_n hx 0 dX12_chance_5 rfl ?_
  refine j_iload_n hx 1 dX12_chance_6 rfl ?_
  refine j_iconst hx dX12_chance_7 ?_
  have g1 : s1 a 0 = 0 := (by rw [e_s1, zU_eq])
  refine j_callV hx hG (c_X12_isPlayer hst a x1 1) lk_RX12_339 ha (by decide) rfl rfl rfl rfl [.int (zI x1), .int (zI 1)] ⟨rfl, hG, hS_s1, ha, (by omega), (by omega), (((by rw [e_s1, zU_eq]) : s1 a 0 = 0).trans (by omega))⟩ rfl rfl ⟨by decide, by decide⟩ ⟨by decide, by decide⟩ (k2 := 0) (n2 := 0) rfl rfl (Nat.le_of_ble_eq_true rfl) dX12_chance_8 (kIM (fun v2 s2 hS_s2 hF_s2 q3 => ?_))
  refine j_if_eq hx 38 dX12_chance_11 rfl (by omega) (fun h4 => ?_) (fun h4 => absurd h4 (by omega))
  refine j_iconst hx dX12_chance_38 ?_
  exact j_iret hx hq rfl (by decide) (by decide) dX12_chance_39 ⟨0, rfl, rfl, hS_s2, (zFr_t (zFr_u zFr_rf e_s1 ha (by decide)) hF_s2 (by decide)), ⟨(by omega), by omega⟩⟩

set_option maxHeartbeats 4000000 in
set_option maxRecDepth 20000 in
theorem c_X12_isWorth {E : zE} {l : Launch} (hst : l.stackTraces = false) (a : Nat) (x1 : Int) (x2 : Int) (x3 : Int) (x4 : Int) : Con E l yX12_isWorth cX12_isWorth 5 (some .boolean) { frames := 1, cells := 0, slots := 0, locals := 23 } (fun G s vs => vs = [.ref a, .int (zI x1), .int (zI x2), .int (zI x3), .int (zI x4)] ∧ zGK G ∧ zSK G s ∧ (gT G a = 13) ∧ ((-2147483648) ≤ x1 ∧ x1 ≤ 2147483647) ∧ ((-2147483648) ≤ x2 ∧ x2 ≤ 2147483647) ∧ ((-2147483648) ≤ x3 ∧ x3 ≤ 2147483647) ∧ ((-2147483648) ≤ x4 ∧ x4 ≤ 2147483647) ∧ (s a 0 = 0)) (fun G s _ => pI (fun r G2 s2 => G2 = G ∧ zSK G s2 ∧ zFr [13, 71] G s s2 ∧ (0 ≤ r ∧ r ≤ 1) ∧ ((r = 1 → (1 ≤ x2 ∧ x2 ≤ 99 ∧ 0 ≤ x1 ∧ x1 ≤ x2 ∧ 0 ≤ x3 ∧ x3 ≤ 99 ∧ 0 ≤ x4 ∧ x4 ≤ 99) ∧ s2 a 0 = 0) ∧ (r = 0 → ¬ (1 ≤ x2 ∧ x2 ≤ 99 ∧ 0 ≤ x1 ∧ x1 ≤ x2 ∧ 0 ≤ x3 ∧ x3 ≤ 99 ∧ 0 ≤ x4 ∧ x4 ≤ 99) ∧ s2 a 0 = 1)))) := by
  refine Con.mk hst (by decide) (fun G s vs h => by rw [h.1]; exact Nat.le_of_ble_eq_true rfl) ?_
  rintro X G s0 vs ⟨rfl, hG, hS0, ha, hx1, hx2, hx3, hx4, e0⟩ rfl hx hq
  show JJ X E 5 G s0 0 0 [(0, .ref a), (1, .int (zI x1)), (2, .int (zI x2)), (3, .int (zI x3)), (4, .int (zI x4))] 0 []
  refine j_aload_n hx 0 dX12_isWorth_0 rfl ?_
  refine j_iload_n hx 2 dX12_isWorth_1 rfl ?_
  refine j_iconst hx dX12_isWorth_2 ?_
  refine j_bipush hx dX12_isWorth_3 rfl ?_
  refine j_callS hx (c_X12_within hst x2 1 99) lk_RX12_314 [.int (zI x2), .int (zI 1), .int (zI 99)] ⟨rfl, hG, hS0, (by omega), (by omega), (by omega)⟩ rfl rfl ⟨by decide, by decide⟩ ⟨by decide, by decide⟩ (k2 := 0) (n2 := 0) rfl rfl (Nat.le_of_ble_eq_true rfl) dX12_isWorth_5 (kIP (fun v1 q2 => ?_))
  refine j_if_eq hx 45 dX12_isWorth_8 rfl (by omega) (fun h3 => ?_) (fun h3 => ?_)
  · skip
    refine j_iconst hx dX12_isWorth_45 ?_
    refine j_iconst hx dX12_isWorth_46 ?_
    refine j_iconst hx dX12_isWorth_47 ?_
    refine j_callV hx hG (c_X12_may hst a 0 1 1) lk_RX12_240 ha (by decide) rfl rfl rfl rfl [.int (zI 0), .int (zI 1), .int (zI 1)] ⟨rfl, hG, hS0, ha, (by omega), (by omega), (by omega)⟩ rfl rfl ⟨by decide, by decide⟩ ⟨by decide, by decide⟩ (k2 := 0) (n2 := 0) rfl rfl (Nat.le_of_ble_eq_true rfl) dX12_isWorth_48 (kIM (fun v4 s1 hS_s1 hF_s1 q5 => ?_))
    have f6 := zf hS_s1 ha (k := 0) rfl
    exact j_zret hx hq rfl (by decide) (by decide) dX12_isWorth_51 (by omega) ⟨v4, rfl, rfl, hS_s1, (zFr_t zFr_rf hF_s1 (by decide)), ⟨(by omega), by omega⟩⟩
  · skip
    refine j_iload_n hx 1 dX12_isWorth_11 rfl ?_
    refine j_iconst hx dX12_isWorth_12 ?_
    refine j_iload_n hx 2 dX12_isWorth_13 rfl ?_
    refine j_callS hx (c_X12_within hst x1 0 x2) lk_RX12_314 [.int (zI x1), .int (zI 0), .int (zI x2)] ⟨rfl, hG, hS0, (by omega), (by omega), (by omega)⟩ rfl rfl ⟨by decide, by decide⟩ ⟨by decide, by decide⟩ (k2 := 0) (n2 := 0) rfl rfl (Nat.le_of_ble_eq_true rfl) dX12_isWorth_14 (kIP (fun v7 q8 => ?_))
    refine j_if_eq hx 45 dX12_isWorth_17 rfl (by omega) (fun h9 => ?_) (fun h9 => ?_)
    · skip
      refine j_iconst hx dX12_isWorth_45 ?_
      refine j_iconst hx dX12_isWorth_46 ?_
      refine j_iconst hx dX12_isWorth_47 ?_
      refine j_callV hx hG (c_X12_may hst a 0 1 1) lk_RX12_240 ha (by decide) rfl rfl rfl rfl [.int (zI 0), .int (zI 1), .int (zI 1)] ⟨rfl, hG, hS0, ha, (by omega), (by omega), (by omega)⟩ rfl rfl ⟨by decide, by decide⟩ ⟨by decide, by decide⟩ (k2 := 0) (n2 := 0) rfl rfl (Nat.le_of_ble_eq_true rfl) dX12_isWorth_48 (kIM (fun v10 s2 hS_s2 hF_s2 q11 => ?_))
      have f12 := zf hS_s2 ha (k := 0) rfl
      exact j_zret hx hq rfl (by decide) (by decide) dX12_isWorth_51 (by omega) ⟨v10, rfl, rfl, hS_s2, (zFr_t zFr_rf hF_s2 (by decide)), ⟨(by omega), by omega⟩⟩
    · skip
      refine j_iload_n hx 3 dX12_isWorth_20 rfl ?_
      refine j_iconst hx dX12_isWorth_21 ?_
      refine j_bipush hx dX12_isWorth_22 rfl ?_
      refine j_callS hx (c_X12_within hst x3 0 99) lk_RX12_314 [.int (zI x3), .int (zI 0), .int (zI 99)] ⟨rfl, hG, hS0, (by omega), (by omega), (by omega)⟩ rfl rfl ⟨by decide, by decide⟩ ⟨by decide, by decide⟩ (k2 := 0) (n2 := 0) rfl rfl (Nat.le_of_ble_eq_true rfl) dX12_isWorth_24 (kIP (fun v13 q14 => ?_))
      refine j_if_eq hx 45 dX12_isWorth_27 rfl (by omega) (fun h15 => ?_) (fun h15 => ?_)
      · skip
        refine j_iconst hx dX12_isWorth_45 ?_
        refine j_iconst hx dX12_isWorth_46 ?_
        refine j_iconst hx dX12_isWorth_47 ?_
        refine j_callV hx hG (c_X12_may hst a 0 1 1) lk_RX12_240 ha (by decide) rfl rfl rfl rfl [.int (zI 0), .int (zI 1), .int (zI 1)] ⟨rfl, hG, hS0, ha, (by omega), (by omega), (by omega)⟩ rfl rfl ⟨by decide, by decide⟩ ⟨by decide, by decide⟩ (k2 := 0) (n2 := 0) rfl rfl (Nat.le_of_ble_eq_true rfl) dX12_isWorth_48 (kIM (fun v16 s3 hS_s3 hF_s3 q17 => ?_))
        have f18 := zf hS_s3 ha (k := 0) rfl
        exact j_zret hx hq rfl (by decide) (by decide) dX12_isWorth_51 (by omega) ⟨v16, rfl, rfl, hS_s3, (zFr_t zFr_rf hF_s3 (by decide)), ⟨(by omega), by omega⟩⟩
      · skip
        refine j_iload hx 4 dX12_isWorth_30 rfl ?_
        refine j_iconst hx dX12_isWorth_32 ?_
        refine j_bipush hx dX12_isWorth_33 rfl ?_
        refine j_callS hx (c_X12_within hst x4 0 99) lk_RX12_314 [.int (zI x4), .int (zI 0), .int (zI 99)] ⟨rfl, hG, hS0, (by omega), (by omega), (by omega)⟩ rfl rfl ⟨by decide, by decide⟩ ⟨by decide, by decide⟩ (k2 := 0) (n2 := 0) rfl rfl (Nat.le_of_ble_eq_true rfl) dX12_isWorth_35 (kIP (fun v19 q20 => ?_))
        refine j_if_eq hx 45 dX12_isWorth_38 rfl (by omega) (fun h21 => ?_) (fun h21 => ?_)
        · skip
          refine j_iconst hx dX12_isWorth_45 ?_
          refine j_iconst hx dX12_isWorth_46 ?_
          refine j_iconst hx dX12_isWorth_47 ?_
          refine j_callV hx hG (c_X12_may hst a 0 1 1) lk_RX12_240 ha (by decide) rfl rfl rfl rfl [.int (zI 0), .int (zI 1), .int (zI 1)] ⟨rfl, hG, hS0, ha, (by omega), (by omega), (by omega)⟩ rfl rfl ⟨by decide, by decide⟩ ⟨by decide, by decide⟩ (k2 := 0) (n2 := 0) rfl rfl (Nat.le_of_ble_eq_true rfl) dX12_isWorth_48 (kIM (fun v22 s4 hS_s4 hF_s4 q23 => ?_))
          have f24 := zf hS_s4 ha (k := 0) rfl
          exact j_zret hx hq rfl (by decide) (by decide) dX12_isWorth_51 (by omega) ⟨v22, rfl, rfl, hS_s4, (zFr_t zFr_rf hF_s4 (by decide)), ⟨(by omega), by omega⟩⟩
        · skip
          refine j_iconst hx dX12_isWorth_41 ?_
          refine j_goto hx 46 dX12_isWorth_42 rfl ?_
          refine j_iconst hx dX12_isWorth_46 ?_
          refine j_iconst hx dX12_isWorth_47 ?_
          refine j_callV hx hG (c_X12_may hst a 1 1 1) lk_RX12_240 ha (by decide) rfl rfl rfl rfl [.int (zI 1), .int (zI 1), .int (zI 1)] ⟨rfl, hG, hS0, ha, (by omega), (by omega), (by omega)⟩ rfl rfl ⟨by decide, by decide⟩ ⟨by decide, by decide⟩ (k2 := 0) (n2 := 0) rfl rfl (Nat.le_of_ble_eq_true rfl) dX12_isWorth_48 (kIM (fun v25 s5 hS_s5 hF_s5 q26 => ?_))
          have f27 := zf hS_s5 ha (k := 0) rfl
          exact j_zret hx hq rfl (by decide) (by decide) dX12_isWorth_51 (by omega) ⟨v25, rfl, rfl, hS_s5, (zFr_t zFr_rf hF_s5 (by decide)), ⟨(by omega), by omega⟩⟩

theorem lk_RX12_465 : LkV RX12 465 RX12 yX12_isWorth cX12_isWorth 5 (some .boolean) 4 := ⟨km_RX12_465, ki_yX12_isWorth, ks_RX12_yX12_isWorth, kn_RX12, kc_yX12_isWorth, rfl, by decide +kernel, by decide +kernel, by decide +kernel⟩
set_option maxHeartbeats 4000000 in
set_option maxRecDepth 20000 in
theorem c_X12_waits {E : zE} {l : Launch} (hst : l.stackTraces = false) (a : Nat) (x1 : Int) (x2 : Int) (x3 : Int) (x4 : Int) : Con E l yX12_waits cX12_waits 6 (some .int) { frames := 2, cells := 0, slots := 0, locals := 47 } (fun G s vs => vs = [.ref a, .int (zI x1), .int (zI x2), .int (zI x3), .int (zI x4)] ∧ zGK G ∧ zSK G s ∧ (gT G a = 13) ∧ ((-2147483648) ≤ x1 ∧ x1 ≤ 2147483647) ∧ ((-2147483648) ≤ x2 ∧ x2 ≤ 2147483647) ∧ ((-2147483648) ≤ x3 ∧ x3 ≤ 2147483647) ∧ ((-2147483648) ≤ x4 ∧ x4 ≤ 2147483647) ∧ (zS0m G s)) (fun G s _ => pI (fun r G2 s2 => G2 = G ∧ zSK G s2 ∧ zFr [13, 71] G s s2 ∧ (0 ≤ r ∧ r ≤ 17) ∧ (((1 ≤ x2 ∧ x2 ≤ 99 ∧ 0 ≤ x1 ∧ x1 ≤ x2 ∧ 0 ≤ x3 ∧ x3 ≤ 99 ∧ 0 ≤ x4 ∧ x4 ≤ 99) → s2 a 0 = 0 ∧ ((r ≤ 16 → 16 * (x1 * x3 - (x2 - x1) * x4) ≤ r * (x1 * x3)) ∧ (1 ≤ r → (r - 1) * (x1 * x3) < 16 * (x1 * x3 - (x2 - x1) * x4)))) ∧ (¬ (1 ≤ x2 ∧ x2 ≤ 99 ∧ 0 ≤ x1 ∧ x1 ≤ x2 ∧ 0 ≤ x3 ∧ x3 ≤ 99 ∧ 0 ≤ x4 ∧ x4 ≤ 99) → s2 a 0 = 1)))) := by
  refine Con.mk hst (by decide) (fun G s vs h => by rw [h.1]; exact Nat.le_of_ble_eq_true rfl) ?_
  rintro X G s0 vs ⟨rfl, hG, hS0, ha, hx1, hx2, hx3, hx4, hF0⟩ rfl hx hq
  show JJ X E 6 G s0 0 0 [(0, .ref a), (1, .int (zI x1)), (2, .int (zI x2)), (3, .int (zI x3)), (4, .int (zI x4))] 0 []
  refine j_aload_n hx 0 dX12_waits_0 rfl ?_
  refine j_iconst hx dX12_waits_1 ?_
  refine p13_0 hx hG ha kf_RX12_3 dX12_waits_2 ?_
  obtain ⟨s1, e_s1⟩ : ∃ z, z = zU s0 a 0 0 := ⟨_, rfl⟩
  rw [← e_s1]
  have hS_s1 : zSK G s1 := by rw [e_s1]; exact zSK_F hS0 ha rfl rfl rfl (by omega)
  refine j_aload_n hx 0 dX12_waits_5 rfl ?_
  refine j_iload_n hx 1 dX12_waits_6 rfl ?_
  refine j_iload_n hx 2 dX12_waits_7 rfl ?_
  refine j_iload_n hx 3 dX12_waits_8 rfl ?_
  refine j_iload hx 4 dX12_waits_9 rfl ?_
  have g1 : s1 a 0 = 0 := (by rw [e_s1, zU_eq])
  refine j_callV hx hG (c_X12_isWorth hst a x1 x2 x3 x4) lk_RX12_465 ha (by decide) rfl rfl rfl rfl [.int (zI x1), .int (zI x2), .int (zI x3), .int (zI x4)] ⟨rfl, hG, hS_s1, ha, (by omega), (by omega), (by omega), (by omega), (((by rw [e_s1, zU_eq]) : s1 a 0 = 0).trans (by omega))⟩ rfl rfl ⟨by decide, by decide⟩ ⟨by decide, by decide⟩ (k2 := 0) (n2 := 0) rfl rfl (Nat.le_of_ble_eq_true rfl) dX12_waits_11 (kIM (fun v2 s2 hS_s2 hF_s2 q3 => ?_))
  refine j_if_ne hx 19 dX12_waits_14 rfl (by omega) (fun h4 => ?_) (fun h4 => ?_)
  · skip
    refine j_iconst hx dX12_waits_19 ?_
    refine j_istore hx [(5, .int (zI 0)), (0, .ref a), (1, .int (zI x1)), (2, .int (zI x2)), (3, .int (zI x3)), (4, .int (zI x4))] dX12_waits_20 (by decide) rfl ?_
    refine j_iload hx 0 dX12_waits_22 rfl ?_
    refine j_bipush hx dX12_waits_24 rfl ?_
    refine j_icmp_ge hx 57 dX12_waits_26 rfl ⟨by decide, by decide⟩ ⟨by decide, by decide⟩ (fun h5 => absurd h5 (by omega)) (fun h5 => ?_)
    refine j_iload hx 0 dX12_waits_29 rfl ?_
    refine j_iload_n hx 2 dX12_waits_31 rfl ?_
    refine j_imul hx (r := 0) dX12_waits_32 (by omega) ?_
    refine j_iload_n hx 4 dX12_waits_33 rfl ?_
    refine j_imul hx (r := 0) dX12_waits_34 (by omega) ?_
    refine j_bipush hx dX12_waits_35 rfl ?_
    refine j_iload_n hx 2 dX12_waits_37 rfl ?_
    refine j_iload_n hx 4 dX12_waits_38 rfl ?_
    refine j_imul hx (r := (x1 * x3)) dX12_waits_39 rfl ?_
    refine j_norm (fun v6 f7 f8 f9 => ?_)
    refine j_iload_n hx 3 dX12_waits_40 rfl ?_
    refine j_iload_n hx 2 dX12_waits_41 rfl ?_
    refine j_isub hx (r := x2 - x1) dX12_waits_42 rfl ?_
    refine j_norm (fun v10 f11 f12 f13 => ?_)
    refine j_iload hx 5 dX12_waits_43 rfl ?_
    refine j_imul hx (r := (v10 * x4)) dX12_waits_45 rfl ?_
    refine j_norm (fun v14 f15 f16 f17 => ?_)
    refine j_isub hx (r := v6 - v14) dX12_waits_46 rfl ?_
    refine j_norm (fun v18 f19 f20 f21 => ?_)
    refine j_imul hx (r := 16 * v18) dX12_waits_47 rfl ?_
    refine j_norm (fun v22 f23 f24 f25 => ?_)
    refine j_icmp_ge hx 57 dX12_waits_48 rfl ⟨by decide, by decide⟩ (by omega) (fun h26 => ?_) (fun h26 => ?_)
    · skip
      refine j_iload hx 0 dX12_waits_57 rfl ?_
      have f27 := zf hS_s2 ha (k := 0) rfl
      exact j_iret hx hq rfl (by decide) (by decide) dX12_waits_59 ⟨0, rfl, rfl, hS_s2, (zFr_t (zFr_u zFr_rf e_s1 ha (by decide)) hF_s2 (by decide)), ⟨(by omega), by omega⟩⟩
    · skip
      refine j_iinc hx 0 [(5, .int (zI 1)), (0, .ref a), (1, .int (zI x1)), (2, .int (zI x2)), (3, .int (zI x3)), (4, .int (zI x4))] dX12_waits_51 rfl (by omega) (by decide) rfl ?_
      refine j_goto hx 22 dX12_waits_54 rfl ?_
      refine j_iload hx 0 dX12_waits_22 rfl ?_
      refine j_bipush hx dX12_waits_24 rfl ?_
      refine j_icmp_ge hx 57 dX12_waits_26 rfl ⟨by decide, by decide⟩ ⟨by decide, by decide⟩ (fun h28 => absurd h28 (by omega)) (fun h28 => ?_)
      refine j_iload hx 0 dX12_waits_29 rfl ?_
      refine j_iload_n hx 2 dX12_waits_31 rfl ?_
      refine j_imul hx (r := x1) dX12_waits_32 (by omega) ?_
      refine j_iload_n hx 4 dX12_waits_33 rfl ?_
      refine j_imul hx (r := (x1 * x3)) dX12_waits_34 rfl ?_
      refine j_norm (fun v29 f30 f31 f32 => ?_)
      refine j_bipush hx dX12_waits_35 rfl ?_
      refine j_iload_n hx 2 dX12_waits_37 rfl ?_
      refine j_iload_n hx 4 dX12_waits_38 rfl ?_
      refine j_imul hx (r := (x1 * x3)) dX12_waits_39 rfl ?_
      refine j_norm (fun v33 f34 f35 f36 => ?_)
      refine j_iload_n hx 3 dX12_waits_40 rfl ?_
      refine j_iload_n hx 2 dX12_waits_41 rfl ?_
      refine j_isub hx (r := x2 - x1) dX12_waits_42 rfl ?_
      refine j_norm (fun v37 f38 f39 f40 => ?_)
      refine j_iload hx 5 dX12_waits_43 rfl ?_
      refine j_imul hx (r := (v37 * x4)) dX12_waits_45 rfl ?_
      refine j_norm (fun v41 f42 f43 f44 => ?_)
      refine j_isub hx (r := v33 - v41) dX12_waits_46 rfl ?_
      refine j_norm (fun v45 f46 f47 f48 => ?_)
      refine j_imul hx (r := 16 * v45) dX12_waits_47 rfl ?_
      refine j_norm (fun v49 f50 f51 f52 => ?_)
      refine j_icmp_ge hx 57 dX12_waits_48 rfl (by omega) (by omega) (fun h53 => ?_) (fun h53 => ?_)
      · skip
        refine j_iload hx 0 dX12_waits_57 rfl ?_
        have f54 := zf hS_s2 ha (k := 0) rfl
        exact j_iret hx hq rfl (by decide) (by decide) dX12_waits_59 ⟨1, rfl, rfl, hS_s2, (zFr_t (zFr_u zFr_rf e_s1 ha (by decide)) hF_s2 (by decide)), ⟨(by omega), by omega⟩⟩
      · skip
        refine j_iinc hx 0 [(5, .int (zI 2)), (0, .ref a), (1, .int (zI x1)), (2, .int (zI x2)), (3, .int (zI x3)), (4, .int (zI x4))] dX12_waits_51 rfl (by omega) (by decide) rfl ?_
        refine j_goto hx 22 dX12_waits_54 rfl ?_
        refine j_iload hx 0 dX12_waits_22 rfl ?_
        refine j_bipush hx dX12_waits_24 rfl ?_
        refine j_icmp_ge hx 57 dX12_waits_26 rfl ⟨by decide, by decide⟩ ⟨by decide, by decide⟩ (fun h55 => absurd h55 (by omega)) (fun h55 => ?_)
        refine j_iload hx 0 dX12_waits_29 rfl ?_
        refine j_iload_n hx 2 dX12_waits_31 rfl ?_
        refine j_imul hx (r := 2 * x1) dX12_waits_32 rfl ?_
        refine j_norm (fun v56 f57 f58 f59 => ?_)
        refine j_iload_n hx 4 dX12_waits_33 rfl ?_
        refine j_imul hx (r := (v56 * x3)) dX12_waits_34 rfl ?_
        refine j_norm (fun v60 f61 f62 f63 => ?_)
        refine j_bipush hx dX12_waits_35 rfl ?_
        refine j_iload_n hx 2 dX12_waits_37 rfl ?_
        refine j_iload_n hx 4 dX12_waits_38 rfl ?_
        refine j_imul hx (r := (x1 * x3)) dX12_waits_39 rfl ?_
        refine j_norm (fun v64 f65 f66 f67 => ?_)
        refine j_iload_n hx 3 dX12_waits_40 rfl ?_
        refine j_iload_n hx 2 dX12_waits_41 rfl ?_
        refine j_isub hx (r := x2 - x1) dX12_waits_42 rfl ?_
        refine j_norm (fun v68 f69 f70 f71 => ?_)
        refine j_iload hx 5 dX12_waits_43 rfl ?_
        refine j_imul hx (r := (v68 * x4)) dX12_waits_45 rfl ?_
        refine j_norm (fun v72 f73 f74 f75 => ?_)
        refine j_isub hx (r := v64 - v72) dX12_waits_46 rfl ?_
        refine j_norm (fun v76 f77 f78 f79 => ?_)
        refine j_imul hx (r := 16 * v76) dX12_waits_47 rfl ?_
        refine j_norm (fun v80 f81 f82 f83 => ?_)
        refine j_icmp_ge hx 57 dX12_waits_48 rfl (by omega) (by omega) (fun h84 => ?_) (fun h84 => ?_)
        · skip
          refine j_iload hx 0 dX12_waits_57 rfl ?_
          have f85 := zf hS_s2 ha (k := 0) rfl
          exact j_iret hx hq rfl (by decide) (by decide) dX12_waits_59 ⟨2, rfl, rfl, hS_s2, (zFr_t (zFr_u zFr_rf e_s1 ha (by decide)) hF_s2 (by decide)), ⟨(by omega), by omega⟩⟩
        · skip
          refine j_iinc hx 0 [(5, .int (zI 3)), (0, .ref a), (1, .int (zI x1)), (2, .int (zI x2)), (3, .int (zI x3)), (4, .int (zI x4))] dX12_waits_51 rfl (by omega) (by decide) rfl ?_
          refine j_goto hx 22 dX12_waits_54 rfl ?_
          refine j_iload hx 0 dX12_waits_22 rfl ?_
          refine j_bipush hx dX12_waits_24 rfl ?_
          refine j_icmp_ge hx 57 dX12_waits_26 rfl ⟨by decide, by decide⟩ ⟨by decide, by decide⟩ (fun h86 => absurd h86 (by omega)) (fun h86 => ?_)
          refine j_iload hx 0 dX12_waits_29 rfl ?_
          refine j_iload_n hx 2 dX12_waits_31 rfl ?_
          refine j_imul hx (r := 3 * x1) dX12_waits_32 rfl ?_
          refine j_norm (fun v87 f88 f89 f90 => ?_)
          refine j_iload_n hx 4 dX12_waits_33 rfl ?_
          refine j_imul hx (r := (v87 * x3)) dX12_waits_34 rfl ?_
          refine j_norm (fun v91 f92 f93 f94 => ?_)
          refine j_bipush hx dX12_waits_35 rfl ?_
          refine j_iload_n hx 2 dX12_waits_37 rfl ?_
          refine j_iload_n hx 4 dX12_waits_38 rfl ?_
          refine j_imul hx (r := (x1 * x3)) dX12_waits_39 rfl ?_
          refine j_norm (fun v95 f96 f97 f98 => ?_)
          refine j_iload_n hx 3 dX12_waits_40 rfl ?_
          refine j_iload_n hx 2 dX12_waits_41 rfl ?_
          refine j_isub hx (r := x2 - x1) dX12_waits_42 rfl ?_
          refine j_norm (fun v99 f100 f101 f102 => ?_)
          refine j_iload hx 5 dX12_waits_43 rfl ?_
          refine j_imul hx (r := (v99 * x4)) dX12_waits_45 rfl ?_
          refine j_norm (fun v103 f104 f105 f106 => ?_)
          refine j_isub hx (r := v95 - v103) dX12_waits_46 rfl ?_
          refine j_norm (fun v107 f108 f109 f110 => ?_)
          refine j_imul hx (r := 16 * v107) dX12_waits_47 rfl ?_
          refine j_norm (fun v111 f112 f113 f114 => ?_)
          refine j_icmp_ge hx 57 dX12_waits_48 rfl (by omega) (by omega) (fun h115 => ?_) (fun h115 => ?_)
          · skip
            refine j_iload hx 0 dX12_waits_57 rfl ?_
            have f116 := zf hS_s2 ha (k := 0) rfl
            exact j_iret hx hq rfl (by decide) (by decide) dX12_waits_59 ⟨3, rfl, rfl, hS_s2, (zFr_t (zFr_u zFr_rf e_s1 ha (by decide)) hF_s2 (by decide)), ⟨(by omega), by omega⟩⟩
          · skip
            refine j_iinc hx 0 [(5, .int (zI 4)), (0, .ref a), (1, .int (zI x1)), (2, .int (zI x2)), (3, .int (zI x3)), (4, .int (zI x4))] dX12_waits_51 rfl (by omega) (by decide) rfl ?_
            refine j_goto hx 22 dX12_waits_54 rfl ?_
            refine j_iload hx 0 dX12_waits_22 rfl ?_
            refine j_bipush hx dX12_waits_24 rfl ?_
            refine j_icmp_ge hx 57 dX12_waits_26 rfl ⟨by decide, by decide⟩ ⟨by decide, by decide⟩ (fun h117 => absurd h117 (by omega)) (fun h117 => ?_)
            refine j_iload hx 0 dX12_waits_29 rfl ?_
            refine j_iload_n hx 2 dX12_waits_31 rfl ?_
            refine j_imul hx (r := 4 * x1) dX12_waits_32 rfl ?_
            refine j_norm (fun v118 f119 f120 f121 => ?_)
            refine j_iload_n hx 4 dX12_waits_33 rfl ?_
            refine j_imul hx (r := (v118 * x3)) dX12_waits_34 rfl ?_
            refine j_norm (fun v122 f123 f124 f125 => ?_)
            refine j_bipush hx dX12_waits_35 rfl ?_
            refine j_iload_n hx 2 dX12_waits_37 rfl ?_
            refine j_iload_n hx 4 dX12_waits_38 rfl ?_
            refine j_imul hx (r := (x1 * x3)) dX12_waits_39 rfl ?_
            refine j_norm (fun v126 f127 f128 f129 => ?_)
            refine j_iload_n hx 3 dX12_waits_40 rfl ?_
            refine j_iload_n hx 2 dX12_waits_41 rfl ?_
            refine j_isub hx (r := x2 - x1) dX12_waits_42 rfl ?_
            refine j_norm (fun v130 f131 f132 f133 => ?_)
            refine j_iload hx 5 dX12_waits_43 rfl ?_
            refine j_imul hx (r := (v130 * x4)) dX12_waits_45 rfl ?_
            refine j_norm (fun v134 f135 f136 f137 => ?_)
            refine j_isub hx (r := v126 - v134) dX12_waits_46 rfl ?_
            refine j_norm (fun v138 f139 f140 f141 => ?_)
            refine j_imul hx (r := 16 * v138) dX12_waits_47 rfl ?_
            refine j_norm (fun v142 f143 f144 f145 => ?_)
            refine j_icmp_ge hx 57 dX12_waits_48 rfl (by omega) (by omega) (fun h146 => ?_) (fun h146 => ?_)
            · skip
              refine j_iload hx 0 dX12_waits_57 rfl ?_
              have f147 := zf hS_s2 ha (k := 0) rfl
              exact j_iret hx hq rfl (by decide) (by decide) dX12_waits_59 ⟨4, rfl, rfl, hS_s2, (zFr_t (zFr_u zFr_rf e_s1 ha (by decide)) hF_s2 (by decide)), ⟨(by omega), by omega⟩⟩
            · skip
              refine j_iinc hx 0 [(5, .int (zI 5)), (0, .ref a), (1, .int (zI x1)), (2, .int (zI x2)), (3, .int (zI x3)), (4, .int (zI x4))] dX12_waits_51 rfl (by omega) (by decide) rfl ?_
              refine j_goto hx 22 dX12_waits_54 rfl ?_
              refine j_iload hx 0 dX12_waits_22 rfl ?_
              refine j_bipush hx dX12_waits_24 rfl ?_
              refine j_icmp_ge hx 57 dX12_waits_26 rfl ⟨by decide, by decide⟩ ⟨by decide, by decide⟩ (fun h148 => absurd h148 (by omega)) (fun h148 => ?_)
              refine j_iload hx 0 dX12_waits_29 rfl ?_
              refine j_iload_n hx 2 dX12_waits_31 rfl ?_
              refine j_imul hx (r := 5 * x1) dX12_waits_32 rfl ?_
              refine j_norm (fun v149 f150 f151 f152 => ?_)
              refine j_iload_n hx 4 dX12_waits_33 rfl ?_
              refine j_imul hx (r := (v149 * x3)) dX12_waits_34 rfl ?_
              refine j_norm (fun v153 f154 f155 f156 => ?_)
              refine j_bipush hx dX12_waits_35 rfl ?_
              refine j_iload_n hx 2 dX12_waits_37 rfl ?_
              refine j_iload_n hx 4 dX12_waits_38 rfl ?_
              refine j_imul hx (r := (x1 * x3)) dX12_waits_39 rfl ?_
              refine j_norm (fun v157 f158 f159 f160 => ?_)
              refine j_iload_n hx 3 dX12_waits_40 rfl ?_
              refine j_iload_n hx 2 dX12_waits_41 rfl ?_
              refine j_isub hx (r := x2 - x1) dX12_waits_42 rfl ?_
              refine j_norm (fun v161 f162 f163 f164 => ?_)
              refine j_iload hx 5 dX12_waits_43 rfl ?_
              refine j_imul hx (r := (v161 * x4)) dX12_waits_45 rfl ?_
              refine j_norm (fun v165 f166 f167 f168 => ?_)
              refine j_isub hx (r := v157 - v165) dX12_waits_46 rfl ?_
              refine j_norm (fun v169 f170 f171 f172 => ?_)
              refine j_imul hx (r := 16 * v169) dX12_waits_47 rfl ?_
              refine j_norm (fun v173 f174 f175 f176 => ?_)
              refine j_icmp_ge hx 57 dX12_waits_48 rfl (by omega) (by omega) (fun h177 => ?_) (fun h177 => ?_)
              · skip
                refine j_iload hx 0 dX12_waits_57 rfl ?_
                have f178 := zf hS_s2 ha (k := 0) rfl
                exact j_iret hx hq rfl (by decide) (by decide) dX12_waits_59 ⟨5, rfl, rfl, hS_s2, (zFr_t (zFr_u zFr_rf e_s1 ha (by decide)) hF_s2 (by decide)), ⟨(by omega), by omega⟩⟩
              · skip
                refine j_iinc hx 0 [(5, .int (zI 6)), (0, .ref a), (1, .int (zI x1)), (2, .int (zI x2)), (3, .int (zI x3)), (4, .int (zI x4))] dX12_waits_51 rfl (by omega) (by decide) rfl ?_
                refine j_goto hx 22 dX12_waits_54 rfl ?_
                refine j_iload hx 0 dX12_waits_22 rfl ?_
                refine j_bipush hx dX12_waits_24 rfl ?_
                refine j_icmp_ge hx 57 dX12_waits_26 rfl ⟨by decide, by decide⟩ ⟨by decide, by decide⟩ (fun h179 => absurd h179 (by omega)) (fun h179 => ?_)
                refine j_iload hx 0 dX12_waits_29 rfl ?_
                refine j_iload_n hx 2 dX12_waits_31 rfl ?_
                refine j_imul hx (r := 6 * x1) dX12_waits_32 rfl ?_
                refine j_norm (fun v180 f181 f182 f183 => ?_)
                refine j_iload_n hx 4 dX12_waits_33 rfl ?_
                refine j_imul hx (r := (v180 * x3)) dX12_waits_34 rfl ?_
                refine j_norm (fun v184 f185 f186 f187 => ?_)
                refine j_bipush hx dX12_waits_35 rfl ?_
                refine j_iload_n hx 2 dX12_waits_37 rfl ?_
                refine j_iload_n hx 4 dX12_waits_38 rfl ?_
                refine j_imul hx (r := (x1 * x3)) dX12_waits_39 rfl ?_
                refine j_norm (fun v188 f189 f190 f191 => ?_)
                refine j_iload_n hx 3 dX12_waits_40 rfl ?_
                refine j_iload_n hx 2 dX12_waits_41 rfl ?_
                refine j_isub hx (r := x2 - x1) dX12_waits_42 rfl ?_
                refine j_norm (fun v192 f193 f194 f195 => ?_)
                refine j_iload hx 5 dX12_waits_43 rfl ?_
                refine j_imul hx (r := (v192 * x4)) dX12_waits_45 rfl ?_
                refine j_norm (fun v196 f197 f198 f199 => ?_)
                refine j_isub hx (r := v188 - v196) dX12_waits_46 rfl ?_
                refine j_norm (fun v200 f201 f202 f203 => ?_)
                refine j_imul hx (r := 16 * v200) dX12_waits_47 rfl ?_
                refine j_norm (fun v204 f205 f206 f207 => ?_)
                refine j_icmp_ge hx 57 dX12_waits_48 rfl (by omega) (by omega) (fun h208 => ?_) (fun h208 => ?_)
                · skip
                  refine j_iload hx 0 dX12_waits_57 rfl ?_
                  have f209 := zf hS_s2 ha (k := 0) rfl
                  exact j_iret hx hq rfl (by decide) (by decide) dX12_waits_59 ⟨6, rfl, rfl, hS_s2, (zFr_t (zFr_u zFr_rf e_s1 ha (by decide)) hF_s2 (by decide)), ⟨(by omega), by omega⟩⟩
                · skip
                  refine j_iinc hx 0 [(5, .int (zI 7)), (0, .ref a), (1, .int (zI x1)), (2, .int (zI x2)), (3, .int (zI x3)), (4, .int (zI x4))] dX12_waits_51 rfl (by omega) (by decide) rfl ?_
                  refine j_goto hx 22 dX12_waits_54 rfl ?_
                  refine j_iload hx 0 dX12_waits_22 rfl ?_
                  refine j_bipush hx dX12_waits_24 rfl ?_
                  refine j_icmp_ge hx 57 dX12_waits_26 rfl ⟨by decide, by decide⟩ ⟨by decide, by decide⟩ (fun h210 => absurd h210 (by omega)) (fun h210 => ?_)
                  refine j_iload hx 0 dX12_waits_29 rfl ?_
                  refine j_iload_n hx 2 dX12_waits_31 rfl ?_
                  refine j_imul hx (r := 7 * x1) dX12_waits_32 rfl ?_
                  refine j_norm (fun v211 f212 f213 f214 => ?_)
                  refine j_iload_n hx 4 dX12_waits_33 rfl ?_
                  refine j_imul hx (r := (v211 * x3)) dX12_waits_34 rfl ?_
                  refine j_norm (fun v215 f216 f217 f218 => ?_)
                  refine j_bipush hx dX12_waits_35 rfl ?_
                  refine j_iload_n hx 2 dX12_waits_37 rfl ?_
                  refine j_iload_n hx 4 dX12_waits_38 rfl ?_
                  refine j_imul hx (r := (x1 * x3)) dX12_waits_39 rfl ?_
                  refine j_norm (fun v219 f220 f221 f222 => ?_)
                  refine j_iload_n hx 3 dX12_waits_40 rfl ?_
                  refine j_iload_n hx 2 dX12_waits_41 rfl ?_
                  refine j_isub hx (r := x2 - x1) dX12_waits_42 rfl ?_
                  refine j_norm (fun v223 f224 f225 f226 => ?_)
                  refine j_iload hx 5 dX12_waits_43 rfl ?_
                  refine j_imul hx (r := (v223 * x4)) dX12_waits_45 rfl ?_
                  refine j_norm (fun v227 f228 f229 f230 => ?_)
                  refine j_isub hx (r := v219 - v227) dX12_waits_46 rfl ?_
                  refine j_norm (fun v231 f232 f233 f234 => ?_)
                  refine j_imul hx (r := 16 * v231) dX12_waits_47 rfl ?_
                  refine j_norm (fun v235 f236 f237 f238 => ?_)
                  refine j_icmp_ge hx 57 dX12_waits_48 rfl (by omega) (by omega) (fun h239 => ?_) (fun h239 => ?_)
                  · skip
                    refine j_iload hx 0 dX12_waits_57 rfl ?_
                    have f240 := zf hS_s2 ha (k := 0) rfl
                    exact j_iret hx hq rfl (by decide) (by decide) dX12_waits_59 ⟨7, rfl, rfl, hS_s2, (zFr_t (zFr_u zFr_rf e_s1 ha (by decide)) hF_s2 (by decide)), ⟨(by omega), by omega⟩⟩
                  · skip
                    refine j_iinc hx 0 [(5, .int (zI 8)), (0, .ref a), (1, .int (zI x1)), (2, .int (zI x2)), (3, .int (zI x3)), (4, .int (zI x4))] dX12_waits_51 rfl (by omega) (by decide) rfl ?_
                    refine j_goto hx 22 dX12_waits_54 rfl ?_
                    refine j_iload hx 0 dX12_waits_22 rfl ?_
                    refine j_bipush hx dX12_waits_24 rfl ?_
                    refine j_icmp_ge hx 57 dX12_waits_26 rfl ⟨by decide, by decide⟩ ⟨by decide, by decide⟩ (fun h241 => absurd h241 (by omega)) (fun h241 => ?_)
                    refine j_iload hx 0 dX12_waits_29 rfl ?_
                    refine j_iload_n hx 2 dX12_waits_31 rfl ?_
                    refine j_imul hx (r := 8 * x1) dX12_waits_32 rfl ?_
                    refine j_norm (fun v242 f243 f244 f245 => ?_)
                    refine j_iload_n hx 4 dX12_waits_33 rfl ?_
                    refine j_imul hx (r := (v242 * x3)) dX12_waits_34 rfl ?_
                    refine j_norm (fun v246 f247 f248 f249 => ?_)
                    refine j_bipush hx dX12_waits_35 rfl ?_
                    refine j_iload_n hx 2 dX12_waits_37 rfl ?_
                    refine j_iload_n hx 4 dX12_waits_38 rfl ?_
                    refine j_imul hx (r := (x1 * x3)) dX12_waits_39 rfl ?_
                    refine j_norm (fun v250 f251 f252 f253 => ?_)
                    refine j_iload_n hx 3 dX12_waits_40 rfl ?_
                    refine j_iload_n hx 2 dX12_waits_41 rfl ?_
                    refine j_isub hx (r := x2 - x1) dX12_waits_42 rfl ?_
                    refine j_norm (fun v254 f255 f256 f257 => ?_)
                    refine j_iload hx 5 dX12_waits_43 rfl ?_
                    refine j_imul hx (r := (v254 * x4)) dX12_waits_45 rfl ?_
                    refine j_norm (fun v258 f259 f260 f261 => ?_)
                    refine j_isub hx (r := v250 - v258) dX12_waits_46 rfl ?_
                    refine j_norm (fun v262 f263 f264 f265 => ?_)
                    refine j_imul hx (r := 16 * v262) dX12_waits_47 rfl ?_
                    refine j_norm (fun v266 f267 f268 f269 => ?_)
                    refine j_icmp_ge hx 57 dX12_waits_48 rfl (by omega) (by omega) (fun h270 => ?_) (fun h270 => ?_)
                    · skip
                      refine j_iload hx 0 dX12_waits_57 rfl ?_
                      have f271 := zf hS_s2 ha (k := 0) rfl
                      exact j_iret hx hq rfl (by decide) (by decide) dX12_waits_59 ⟨8, rfl, rfl, hS_s2, (zFr_t (zFr_u zFr_rf e_s1 ha (by decide)) hF_s2 (by decide)), ⟨(by omega), by omega⟩⟩
                    · skip
                      refine j_iinc hx 0 [(5, .int (zI 9)), (0, .ref a), (1, .int (zI x1)), (2, .int (zI x2)), (3, .int (zI x3)), (4, .int (zI x4))] dX12_waits_51 rfl (by omega) (by decide) rfl ?_
                      refine j_goto hx 22 dX12_waits_54 rfl ?_
                      refine j_iload hx 0 dX12_waits_22 rfl ?_
                      refine j_bipush hx dX12_waits_24 rfl ?_
                      refine j_icmp_ge hx 57 dX12_waits_26 rfl ⟨by decide, by decide⟩ ⟨by decide, by decide⟩ (fun h272 => absurd h272 (by omega)) (fun h272 => ?_)
                      refine j_iload hx 0 dX12_waits_29 rfl ?_
                      refine j_iload_n hx 2 dX12_waits_31 rfl ?_
                      refine j_imul hx (r := 9 * x1) dX12_waits_32 rfl ?_
                      refine j_norm (fun v273 f274 f275 f276 => ?_)
                      refine j_iload_n hx 4 dX12_waits_33 rfl ?_
                      refine j_imul hx (r := (v273 * x3)) dX12_waits_34 rfl ?_
                      refine j_norm (fun v277 f278 f279 f280 => ?_)
                      refine j_bipush hx dX12_waits_35 rfl ?_
                      refine j_iload_n hx 2 dX12_waits_37 rfl ?_
                      refine j_iload_n hx 4 dX12_waits_38 rfl ?_
                      refine j_imul hx (r := (x1 * x3)) dX12_waits_39 rfl ?_
                      refine j_norm (fun v281 f282 f283 f284 => ?_)
                      refine j_iload_n hx 3 dX12_waits_40 rfl ?_
                      refine j_iload_n hx 2 dX12_waits_41 rfl ?_
                      refine j_isub hx (r := x2 - x1) dX12_waits_42 rfl ?_
                      refine j_norm (fun v285 f286 f287 f288 => ?_)
                      refine j_iload hx 5 dX12_waits_43 rfl ?_
                      refine j_imul hx (r := (v285 * x4)) dX12_waits_45 rfl ?_
                      refine j_norm (fun v289 f290 f291 f292 => ?_)
                      refine j_isub hx (r := v281 - v289) dX12_waits_46 rfl ?_
                      refine j_norm (fun v293 f294 f295 f296 => ?_)
                      refine j_imul hx (r := 16 * v293) dX12_waits_47 rfl ?_
                      refine j_norm (fun v297 f298 f299 f300 => ?_)
                      refine j_icmp_ge hx 57 dX12_waits_48 rfl (by omega) (by omega) (fun h301 => ?_) (fun h301 => ?_)
                      · skip
                        refine j_iload hx 0 dX12_waits_57 rfl ?_
                        have f302 := zf hS_s2 ha (k := 0) rfl
                        exact j_iret hx hq rfl (by decide) (by decide) dX12_waits_59 ⟨9, rfl, rfl, hS_s2, (zFr_t (zFr_u zFr_rf e_s1 ha (by decide)) hF_s2 (by decide)), ⟨(by omega), by omega⟩⟩
                      · skip
                        refine j_iinc hx 0 [(5, .int (zI 10)), (0, .ref a), (1, .int (zI x1)), (2, .int (zI x2)), (3, .int (zI x3)), (4, .int (zI x4))] dX12_waits_51 rfl (by omega) (by decide) rfl ?_
                        refine j_goto hx 22 dX12_waits_54 rfl ?_
                        refine j_iload hx 0 dX12_waits_22 rfl ?_
                        refine j_bipush hx dX12_waits_24 rfl ?_
                        refine j_icmp_ge hx 57 dX12_waits_26 rfl ⟨by decide, by decide⟩ ⟨by decide, by decide⟩ (fun h303 => absurd h303 (by omega)) (fun h303 => ?_)
                        refine j_iload hx 0 dX12_waits_29 rfl ?_
                        refine j_iload_n hx 2 dX12_waits_31 rfl ?_
                        refine j_imul hx (r := 10 * x1) dX12_waits_32 rfl ?_
                        refine j_norm (fun v304 f305 f306 f307 => ?_)
                        refine j_iload_n hx 4 dX12_waits_33 rfl ?_
                        refine j_imul hx (r := (v304 * x3)) dX12_waits_34 rfl ?_
                        refine j_norm (fun v308 f309 f310 f311 => ?_)
                        refine j_bipush hx dX12_waits_35 rfl ?_
                        refine j_iload_n hx 2 dX12_waits_37 rfl ?_
                        refine j_iload_n hx 4 dX12_waits_38 rfl ?_
                        refine j_imul hx (r := (x1 * x3)) dX12_waits_39 rfl ?_
                        refine j_norm (fun v312 f313 f314 f315 => ?_)
                        refine j_iload_n hx 3 dX12_waits_40 rfl ?_
                        refine j_iload_n hx 2 dX12_waits_41 rfl ?_
                        refine j_isub hx (r := x2 - x1) dX12_waits_42 rfl ?_
                        refine j_norm (fun v316 f317 f318 f319 => ?_)
                        refine j_iload hx 5 dX12_waits_43 rfl ?_
                        refine j_imul hx (r := (v316 * x4)) dX12_waits_45 rfl ?_
                        refine j_norm (fun v320 f321 f322 f323 => ?_)
                        refine j_isub hx (r := v312 - v320) dX12_waits_46 rfl ?_
                        refine j_norm (fun v324 f325 f326 f327 => ?_)
                        refine j_imul hx (r := 16 * v324) dX12_waits_47 rfl ?_
                        refine j_norm (fun v328 f329 f330 f331 => ?_)
                        refine j_icmp_ge hx 57 dX12_waits_48 rfl (by omega) (by omega) (fun h332 => ?_) (fun h332 => ?_)
                        · skip
                          refine j_iload hx 0 dX12_waits_57 rfl ?_
                          have f333 := zf hS_s2 ha (k := 0) rfl
                          exact j_iret hx hq rfl (by decide) (by decide) dX12_waits_59 ⟨10, rfl, rfl, hS_s2, (zFr_t (zFr_u zFr_rf e_s1 ha (by decide)) hF_s2 (by decide)), ⟨(by omega), by omega⟩⟩
                        · skip
                          refine j_iinc hx 0 [(5, .int (zI 11)), (0, .ref a), (1, .int (zI x1)), (2, .int (zI x2)), (3, .int (zI x3)), (4, .int (zI x4))] dX12_waits_51 rfl (by omega) (by decide) rfl ?_
                          refine j_goto hx 22 dX12_waits_54 rfl ?_
                          refine j_iload hx 0 dX12_waits_22 rfl ?_
                          refine j_bipush hx dX12_waits_24 rfl ?_
                          refine j_icmp_ge hx 57 dX12_waits_26 rfl ⟨by decide, by decide⟩ ⟨by decide, by decide⟩ (fun h334 => absurd h334 (by omega)) (fun h334 => ?_)
                          refine j_iload hx 0 dX12_waits_29 rfl ?_
                          refine j_iload_n hx 2 dX12_waits_31 rfl ?_
                          refine j_imul hx (r := 11 * x1) dX12_waits_32 rfl ?_
                          refine j_norm (fun v335 f336 f337 f338 => ?_)
                          refine j_iload_n hx 4 dX12_waits_33 rfl ?_
                          refine j_imul hx (r := (v335 * x3)) dX12_waits_34 rfl ?_
                          refine j_norm (fun v339 f340 f341 f342 => ?_)
                          refine j_bipush hx dX12_waits_35 rfl ?_
                          refine j_iload_n hx 2 dX12_waits_37 rfl ?_
                          refine j_iload_n hx 4 dX12_waits_38 rfl ?_
                          refine j_imul hx (r := (x1 * x3)) dX12_waits_39 rfl ?_
                          refine j_norm (fun v343 f344 f345 f346 => ?_)
                          refine j_iload_n hx 3 dX12_waits_40 rfl ?_
                          refine j_iload_n hx 2 dX12_waits_41 rfl ?_
                          refine j_isub hx (r := x2 - x1) dX12_waits_42 rfl ?_
                          refine j_norm (fun v347 f348 f349 f350 => ?_)
                          refine j_iload hx 5 dX12_waits_43 rfl ?_
                          refine j_imul hx (r := (v347 * x4)) dX12_waits_45 rfl ?_
                          refine j_norm (fun v351 f352 f353 f354 => ?_)
                          refine j_isub hx (r := v343 - v351) dX12_waits_46 rfl ?_
                          refine j_norm (fun v355 f356 f357 f358 => ?_)
                          refine j_imul hx (r := 16 * v355) dX12_waits_47 rfl ?_
                          refine j_norm (fun v359 f360 f361 f362 => ?_)
                          refine j_icmp_ge hx 57 dX12_waits_48 rfl (by omega) (by omega) (fun h363 => ?_) (fun h363 => ?_)
                          · skip
                            refine j_iload hx 0 dX12_waits_57 rfl ?_
                            have f364 := zf hS_s2 ha (k := 0) rfl
                            exact j_iret hx hq rfl (by decide) (by decide) dX12_waits_59 ⟨11, rfl, rfl, hS_s2, (zFr_t (zFr_u zFr_rf e_s1 ha (by decide)) hF_s2 (by decide)), ⟨(by omega), by omega⟩⟩
                          · skip
                            refine j_iinc hx 0 [(5, .int (zI 12)), (0, .ref a), (1, .int (zI x1)), (2, .int (zI x2)), (3, .int (zI x3)), (4, .int (zI x4))] dX12_waits_51 rfl (by omega) (by decide) rfl ?_
                            refine j_goto hx 22 dX12_waits_54 rfl ?_
                            refine j_iload hx 0 dX12_waits_22 rfl ?_
                            refine j_bipush hx dX12_waits_24 rfl ?_
                            refine j_icmp_ge hx 57 dX12_waits_26 rfl ⟨by decide, by decide⟩ ⟨by decide, by decide⟩ (fun h365 => absurd h365 (by omega)) (fun h365 => ?_)
                            refine j_iload hx 0 dX12_waits_29 rfl ?_
                            refine j_iload_n hx 2 dX12_waits_31 rfl ?_
                            refine j_imul hx (r := 12 * x1) dX12_waits_32 rfl ?_
                            refine j_norm (fun v366 f367 f368 f369 => ?_)
                            refine j_iload_n hx 4 dX12_waits_33 rfl ?_
                            refine j_imul hx (r := (v366 * x3)) dX12_waits_34 rfl ?_
                            refine j_norm (fun v370 f371 f372 f373 => ?_)
                            refine j_bipush hx dX12_waits_35 rfl ?_
                            refine j_iload_n hx 2 dX12_waits_37 rfl ?_
                            refine j_iload_n hx 4 dX12_waits_38 rfl ?_
                            refine j_imul hx (r := (x1 * x3)) dX12_waits_39 rfl ?_
                            refine j_norm (fun v374 f375 f376 f377 => ?_)
                            refine j_iload_n hx 3 dX12_waits_40 rfl ?_
                            refine j_iload_n hx 2 dX12_waits_41 rfl ?_
                            refine j_isub hx (r := x2 - x1) dX12_waits_42 rfl ?_
                            refine j_norm (fun v378 f379 f380 f381 => ?_)
                            refine j_iload hx 5 dX12_waits_43 rfl ?_
                            refine j_imul hx (r := (v378 * x4)) dX12_waits_45 rfl ?_
                            refine j_norm (fun v382 f383 f384 f385 => ?_)
                            refine j_isub hx (r := v374 - v382) dX12_waits_46 rfl ?_
                            refine j_norm (fun v386 f387 f388 f389 => ?_)
                            refine j_imul hx (r := 16 * v386) dX12_waits_47 rfl ?_
                            refine j_norm (fun v390 f391 f392 f393 => ?_)
                            refine j_icmp_ge hx 57 dX12_waits_48 rfl (by omega) (by omega) (fun h394 => ?_) (fun h394 => ?_)
                            · skip
                              refine j_iload hx 0 dX12_waits_57 rfl ?_
                              have f395 := zf hS_s2 ha (k := 0) rfl
                              exact j_iret hx hq rfl (by decide) (by decide) dX12_waits_59 ⟨12, rfl, rfl, hS_s2, (zFr_t (zFr_u zFr_rf e_s1 ha (by decide)) hF_s2 (by decide)), ⟨(by omega), by omega⟩⟩
                            · skip
                              refine j_iinc hx 0 [(5, .int (zI 13)), (0, .ref a), (1, .int (zI x1)), (2, .int (zI x2)), (3, .int (zI x3)), (4, .int (zI x4))] dX12_waits_51 rfl (by omega) (by decide) rfl ?_
                              refine j_goto hx 22 dX12_waits_54 rfl ?_
                              refine j_iload hx 0 dX12_waits_22 rfl ?_
                              refine j_bipush hx dX12_waits_24 rfl ?_
                              refine j_icmp_ge hx 57 dX12_waits_26 rfl ⟨by decide, by decide⟩ ⟨by decide, by decide⟩ (fun h396 => absurd h396 (by omega)) (fun h396 => ?_)
                              refine j_iload hx 0 dX12_waits_29 rfl ?_
                              refine j_iload_n hx 2 dX12_waits_31 rfl ?_
                              refine j_imul hx (r := 13 * x1) dX12_waits_32 rfl ?_
                              refine j_norm (fun v397 f398 f399 f400 => ?_)
                              refine j_iload_n hx 4 dX12_waits_33 rfl ?_
                              refine j_imul hx (r := (v397 * x3)) dX12_waits_34 rfl ?_
                              refine j_norm (fun v401 f402 f403 f404 => ?_)
                              refine j_bipush hx dX12_waits_35 rfl ?_
                              refine j_iload_n hx 2 dX12_waits_37 rfl ?_
                              refine j_iload_n hx 4 dX12_waits_38 rfl ?_
                              refine j_imul hx (r := (x1 * x3)) dX12_waits_39 rfl ?_
                              refine j_norm (fun v405 f406 f407 f408 => ?_)
                              refine j_iload_n hx 3 dX12_waits_40 rfl ?_
                              refine j_iload_n hx 2 dX12_waits_41 rfl ?_
                              refine j_isub hx (r := x2 - x1) dX12_waits_42 rfl ?_
                              refine j_norm (fun v409 f410 f411 f412 => ?_)
                              refine j_iload hx 5 dX12_waits_43 rfl ?_
                              refine j_imul hx (r := (v409 * x4)) dX12_waits_45 rfl ?_
                              refine j_norm (fun v413 f414 f415 f416 => ?_)
                              refine j_isub hx (r := v405 - v413) dX12_waits_46 rfl ?_
                              refine j_norm (fun v417 f418 f419 f420 => ?_)
                              refine j_imul hx (r := 16 * v417) dX12_waits_47 rfl ?_
                              refine j_norm (fun v421 f422 f423 f424 => ?_)
                              refine j_icmp_ge hx 57 dX12_waits_48 rfl (by omega) (by omega) (fun h425 => ?_) (fun h425 => ?_)
                              · skip
                                refine j_iload hx 0 dX12_waits_57 rfl ?_
                                have f426 := zf hS_s2 ha (k := 0) rfl
                                exact j_iret hx hq rfl (by decide) (by decide) dX12_waits_59 ⟨13, rfl, rfl, hS_s2, (zFr_t (zFr_u zFr_rf e_s1 ha (by decide)) hF_s2 (by decide)), ⟨(by omega), by omega⟩⟩
                              · skip
                                refine j_iinc hx 0 [(5, .int (zI 14)), (0, .ref a), (1, .int (zI x1)), (2, .int (zI x2)), (3, .int (zI x3)), (4, .int (zI x4))] dX12_waits_51 rfl (by omega) (by decide) rfl ?_
                                refine j_goto hx 22 dX12_waits_54 rfl ?_
                                refine j_iload hx 0 dX12_waits_22 rfl ?_
                                refine j_bipush hx dX12_waits_24 rfl ?_
                                refine j_icmp_ge hx 57 dX12_waits_26 rfl ⟨by decide, by decide⟩ ⟨by decide, by decide⟩ (fun h427 => absurd h427 (by omega)) (fun h427 => ?_)
                                refine j_iload hx 0 dX12_waits_29 rfl ?_
                                refine j_iload_n hx 2 dX12_waits_31 rfl ?_
                                refine j_imul hx (r := 14 * x1) dX12_waits_32 rfl ?_
                                refine j_norm (fun v428 f429 f430 f431 => ?_)
                                refine j_iload_n hx 4 dX12_waits_33 rfl ?_
                                refine j_imul hx (r := (v428 * x3)) dX12_waits_34 rfl ?_
                                refine j_norm (fun v432 f433 f434 f435 => ?_)
                                refine j_bipush hx dX12_waits_35 rfl ?_
                                refine j_iload_n hx 2 dX12_waits_37 rfl ?_
                                refine j_iload_n hx 4 dX12_waits_38 rfl ?_
                                refine j_imul hx (r := (x1 * x3)) dX12_waits_39 rfl ?_
                                refine j_norm (fun v436 f437 f438 f439 => ?_)
                                refine j_iload_n hx 3 dX12_waits_40 rfl ?_
                                refine j_iload_n hx 2 dX12_waits_41 rfl ?_
                                refine j_isub hx (r := x2 - x1) dX12_waits_42 rfl ?_
                                refine j_norm (fun v440 f441 f442 f443 => ?_)
                                refine j_iload hx 5 dX12_waits_43 rfl ?_
                                refine j_imul hx (r := (v440 * x4)) dX12_waits_45 rfl ?_
                                refine j_norm (fun v444 f445 f446 f447 => ?_)
                                refine j_isub hx (r := v436 - v444) dX12_waits_46 rfl ?_
                                refine j_norm (fun v448 f449 f450 f451 => ?_)
                                refine j_imul hx (r := 16 * v448) dX12_waits_47 rfl ?_
                                refine j_norm (fun v452 f453 f454 f455 => ?_)
                                refine j_icmp_ge hx 57 dX12_waits_48 rfl (by omega) (by omega) (fun h456 => ?_) (fun h456 => ?_)
                                · skip
                                  refine j_iload hx 0 dX12_waits_57 rfl ?_
                                  have f457 := zf hS_s2 ha (k := 0) rfl
                                  exact j_iret hx hq rfl (by decide) (by decide) dX12_waits_59 ⟨14, rfl, rfl, hS_s2, (zFr_t (zFr_u zFr_rf e_s1 ha (by decide)) hF_s2 (by decide)), ⟨(by omega), by omega⟩⟩
                                · skip
                                  refine j_iinc hx 0 [(5, .int (zI 15)), (0, .ref a), (1, .int (zI x1)), (2, .int (zI x2)), (3, .int (zI x3)), (4, .int (zI x4))] dX12_waits_51 rfl (by omega) (by decide) rfl ?_
                                  refine j_goto hx 22 dX12_waits_54 rfl ?_
                                  refine j_iload hx 0 dX12_waits_22 rfl ?_
                                  refine j_bipush hx dX12_waits_24 rfl ?_
                                  refine j_icmp_ge hx 57 dX12_waits_26 rfl ⟨by decide, by decide⟩ ⟨by decide, by decide⟩ (fun h458 => absurd h458 (by omega)) (fun h458 => ?_)
                                  refine j_iload hx 0 dX12_waits_29 rfl ?_
                                  refine j_iload_n hx 2 dX12_waits_31 rfl ?_
                                  refine j_imul hx (r := 15 * x1) dX12_waits_32 rfl ?_
                                  refine j_norm (fun v459 f460 f461 f462 => ?_)
                                  refine j_iload_n hx 4 dX12_waits_33 rfl ?_
                                  refine j_imul hx (r := (v459 * x3)) dX12_waits_34 rfl ?_
                                  refine j_norm (fun v463 f464 f465 f466 => ?_)
                                  refine j_bipush hx dX12_waits_35 rfl ?_
                                  refine j_iload_n hx 2 dX12_waits_37 rfl ?_
                                  refine j_iload_n hx 4 dX12_waits_38 rfl ?_
                                  refine j_imul hx (r := (x1 * x3)) dX12_waits_39 rfl ?_
                                  refine j_norm (fun v467 f468 f469 f470 => ?_)
                                  refine j_iload_n hx 3 dX12_waits_40 rfl ?_
                                  refine j_iload_n hx 2 dX12_waits_41 rfl ?_
                                  refine j_isub hx (r := x2 - x1) dX12_waits_42 rfl ?_
                                  refine j_norm (fun v471 f472 f473 f474 => ?_)
                                  refine j_iload hx 5 dX12_waits_43 rfl ?_
                                  refine j_imul hx (r := (v471 * x4)) dX12_waits_45 rfl ?_
                                  refine j_norm (fun v475 f476 f477 f478 => ?_)
                                  refine j_isub hx (r := v467 - v475) dX12_waits_46 rfl ?_
                                  refine j_norm (fun v479 f480 f481 f482 => ?_)
                                  refine j_imul hx (r := 16 * v479) dX12_waits_47 rfl ?_
                                  refine j_norm (fun v483 f484 f485 f486 => ?_)
                                  refine j_icmp_ge hx 57 dX12_waits_48 rfl (by omega) (by omega) (fun h487 => ?_) (fun h487 => ?_)
                                  · skip
                                    refine j_iload hx 0 dX12_waits_57 rfl ?_
                                    have f488 := zf hS_s2 ha (k := 0) rfl
                                    exact j_iret hx hq rfl (by decide) (by decide) dX12_waits_59 ⟨15, rfl, rfl, hS_s2, (zFr_t (zFr_u zFr_rf e_s1 ha (by decide)) hF_s2 (by decide)), ⟨(by omega), by omega⟩⟩
                                  · skip
                                    refine j_iinc hx 0 [(5, .int (zI 16)), (0, .ref a), (1, .int (zI x1)), (2, .int (zI x2)), (3, .int (zI x3)), (4, .int (zI x4))] dX12_waits_51 rfl (by omega) (by decide) rfl ?_
                                    refine j_goto hx 22 dX12_waits_54 rfl ?_
                                    refine j_iload hx 0 dX12_waits_22 rfl ?_
                                    refine j_bipush hx dX12_waits_24 rfl ?_
                                    refine j_icmp_ge hx 57 dX12_waits_26 rfl ⟨by decide, by decide⟩ ⟨by decide, by decide⟩ (fun h489 => absurd h489 (by omega)) (fun h489 => ?_)
                                    refine j_iload hx 0 dX12_waits_29 rfl ?_
                                    refine j_iload_n hx 2 dX12_waits_31 rfl ?_
                                    refine j_imul hx (r := 16 * x1) dX12_waits_32 rfl ?_
                                    refine j_norm (fun v490 f491 f492 f493 => ?_)
                                    refine j_iload_n hx 4 dX12_waits_33 rfl ?_
                                    refine j_imul hx (r := (v490 * x3)) dX12_waits_34 rfl ?_
                                    refine j_norm (fun v494 f495 f496 f497 => ?_)
                                    refine j_bipush hx dX12_waits_35 rfl ?_
                                    refine j_iload_n hx 2 dX12_waits_37 rfl ?_
                                    refine j_iload_n hx 4 dX12_waits_38 rfl ?_
                                    refine j_imul hx (r := (x1 * x3)) dX12_waits_39 rfl ?_
                                    refine j_norm (fun v498 f499 f500 f501 => ?_)
                                    refine j_iload_n hx 3 dX12_waits_40 rfl ?_
                                    refine j_iload_n hx 2 dX12_waits_41 rfl ?_
                                    refine j_isub hx (r := x2 - x1) dX12_waits_42 rfl ?_
                                    refine j_norm (fun v502 f503 f504 f505 => ?_)
                                    refine j_iload hx 5 dX12_waits_43 rfl ?_
                                    refine j_imul hx (r := (v502 * x4)) dX12_waits_45 rfl ?_
                                    refine j_norm (fun v506 f507 f508 f509 => ?_)
                                    refine j_isub hx (r := v498 - v506) dX12_waits_46 rfl ?_
                                    refine j_norm (fun v510 f511 f512 f513 => ?_)
                                    refine j_imul hx (r := 16 * v510) dX12_waits_47 rfl ?_
                                    refine j_norm (fun v514 f515 f516 f517 => ?_)
                                    refine j_icmp_ge hx 57 dX12_waits_48 rfl (by omega) (by omega) (fun h518 => ?_) (fun h518 => ?_)
                                    · skip
                                      refine j_iload hx 0 dX12_waits_57 rfl ?_
                                      have f519 := zf hS_s2 ha (k := 0) rfl
                                      exact j_iret hx hq rfl (by decide) (by decide) dX12_waits_59 ⟨16, rfl, rfl, hS_s2, (zFr_t (zFr_u zFr_rf e_s1 ha (by decide)) hF_s2 (by decide)), ⟨(by omega), by omega⟩⟩
                                    · skip
                                      refine j_iinc hx 0 [(5, .int (zI 17)), (0, .ref a), (1, .int (zI x1)), (2, .int (zI x2)), (3, .int (zI x3)), (4, .int (zI x4))] dX12_waits_51 rfl (by omega) (by decide) rfl ?_
                                      refine j_goto hx 22 dX12_waits_54 rfl ?_
                                      refine j_iload hx 0 dX12_waits_22 rfl ?_
                                      refine j_bipush hx dX12_waits_24 rfl ?_
                                      refine j_icmp_ge hx 57 dX12_waits_26 rfl ⟨by decide, by decide⟩ ⟨by decide, by decide⟩ (fun h520 => ?_) (fun h520 => absurd h520 (by omega))
                                      refine j_iload hx 0 dX12_waits_57 rfl ?_
                                      have f521 := zf hS_s2 ha (k := 0) rfl
                                      exact j_iret hx hq rfl (by decide) (by decide) dX12_waits_59 ⟨17, rfl, rfl, hS_s2, (zFr_t (zFr_u zFr_rf e_s1 ha (by decide)) hF_s2 (by decide)), ⟨(by omega), by omega⟩⟩
  · skip
    refine j_iconst hx dX12_waits_17 ?_
    have f522 := zf hS_s2 ha (k := 0) rfl
    exact j_iret hx hq rfl (by decide) (by decide) dX12_waits_18 ⟨0, rfl, rfl, hS_s2, (zFr_t (zFr_u zFr_rf e_s1 ha (by decide)) hF_s2 (by decide)), ⟨(by omega), by omega⟩⟩

set_option maxHeartbeats 4000000 in
set_option maxRecDepth 20000 in
theorem c_X12_ahead {E : zE} {l : Launch} (hst : l.stackTraces = false) (a : Nat) (x1 : Int) (x2 : Int) (x3 : Int) (x4 : Int) : Con E l yX12_ahead cX12_ahead 5 (some .int) { frames := 2, cells := 0, slots := 0, locals := 47 } (fun G s vs => vs = [.ref a, .int (zI x1), .int (zI x2), .int (zI x3), .int (zI x4)] ∧ zGK G ∧ zSK G s ∧ (gT G a = 13) ∧ ((-2147483648) ≤ x1 ∧ x1 ≤ 2147483647) ∧ ((-2147483648) ≤ x2 ∧ x2 ≤ 2147483647) ∧ ((-2147483648) ≤ x3 ∧ x3 ≤ 2147483647) ∧ ((-2147483648) ≤ x4 ∧ x4 ≤ 2147483647) ∧ (zS0m G s)) (fun G s _ => pI (fun r G2 s2 => G2 = G ∧ zSK G s2 ∧ zFr [13, 71] G s s2 ∧ ((-9801) ≤ r ∧ r ≤ 9801) ∧ (((1 ≤ x2 ∧ x2 ≤ 99 ∧ 0 ≤ x1 ∧ x1 ≤ x2 ∧ 0 ≤ x3 ∧ x3 ≤ 99 ∧ 0 ≤ x4 ∧ x4 ≤ 99) → s2 a 0 = 0 ∧ (r = x1 * x3 - (x2 - x1) * x4)) ∧ (¬ (1 ≤ x2 ∧ x2 ≤ 99 ∧ 0 ≤ x1 ∧ x1 ≤ x2 ∧ 0 ≤ x3 ∧ x3 ≤ 99 ∧ 0 ≤ x4 ∧ x4 ≤ 99) → s2 a 0 = 1)))) := by
  refine Con.mk hst (by decide) (fun G s vs h => by rw [h.1]; exact Nat.le_of_ble_eq_true rfl) ?_
  rintro X G s0 vs ⟨rfl, hG, hS0, ha, hx1, hx2, hx3, hx4, hF0⟩ rfl hx hq
  show JJ X E 5 G s0 0 0 [(0, .ref a), (1, .int (zI x1)), (2, .int (zI x2)), (3, .int (zI x3)), (4, .int (zI x4))] 0 []
  refine j_aload_n hx 0 dX12_ahead_0 rfl ?_
  refine j_iconst hx dX12_ahead_1 ?_
  refine p13_0 hx hG ha kf_RX12_3 dX12_ahead_2 ?_
  obtain ⟨s1, e_s1⟩ : ∃ z, z = zU s0 a 0 0 := ⟨_, rfl⟩
  rw [← e_s1]
  have hS_s1 : zSK G s1 := by rw [e_s1]; exact zSK_F hS0 ha rfl rfl rfl (by omega)
  refine j_aload_n hx 0 dX12_ahead_5 rfl ?_
  refine j_iload_n hx 1 dX12_ahead_6 rfl ?_
  refine j_iload_n hx 2 dX12_ahead_7 rfl ?_
  refine j_iload_n hx 3 dX12_ahead_8 rfl ?_
  refine j_iload hx 4 dX12_ahead_9 rfl ?_
  have g1 : s1 a 0 = 0 := (by rw [e_s1, zU_eq])
  refine j_callV hx hG (c_X12_isWorth hst a x1 x2 x3 x4) lk_RX12_465 ha (by decide) rfl rfl rfl rfl [.int (zI x1), .int (zI x2), .int (zI x3), .int (zI x4)] ⟨rfl, hG, hS_s1, ha, (by omega), (by omega), (by omega), (by omega), (((by rw [e_s1, zU_eq]) : s1 a 0 = 0).trans (by omega))⟩ rfl rfl ⟨by decide, by decide⟩ ⟨by decide, by decide⟩ (k2 := 0) (n2 := 0) rfl rfl (Nat.le_of_ble_eq_true rfl) dX12_ahead_11 (kIM (fun v2 s2 hS_s2 hF_s2 q3 => ?_))
  refine j_if_ne hx 19 dX12_ahead_14 rfl (by omega) (fun h4 => ?_) (fun h4 => ?_)
  · skip
    refine j_iload_n hx 1 dX12_ahead_19 rfl ?_
    refine j_iload_n hx 3 dX12_ahead_20 rfl ?_
    refine j_imul hx (r := (x1 * x3)) dX12_ahead_21 rfl ?_
    refine j_norm (fun v5 f6 f7 f8 => ?_)
    refine j_iload_n hx 2 dX12_ahead_22 rfl ?_
    refine j_iload_n hx 1 dX12_ahead_23 rfl ?_
    refine j_isub hx (r := x2 - x1) dX12_ahead_24 rfl ?_
    refine j_norm (fun v9 f10 f11 f12 => ?_)
    refine j_iload hx 4 dX12_ahead_25 rfl ?_
    refine j_imul hx (r := (v9 * x4)) dX12_ahead_27 rfl ?_
    refine j_norm (fun v13 f14 f15 f16 => ?_)
    refine j_isub hx (r := v5 - v13) dX12_ahead_28 rfl ?_
    refine j_norm (fun v17 f18 f19 f20 => ?_)
    have f21 := zf hS_s2 ha (k := 0) rfl
    exact j_iret hx hq rfl (by decide) (by decide) dX12_ahead_29 ⟨v17, rfl, rfl, hS_s2, (zFr_t (zFr_u zFr_rf e_s1 ha (by decide)) hF_s2 (by decide)), ⟨(by omega), by omega⟩⟩
  · skip
    refine j_iconst hx dX12_ahead_17 ?_
    have f22 := zf hS_s2 ha (k := 0) rfl
    exact j_iret hx hq rfl (by decide) (by decide) dX12_ahead_18 ⟨0, rfl, rfl, hS_s2, (zFr_t (zFr_u zFr_rf e_s1 ha (by decide)) hF_s2 (by decide)), ⟨(by omega), by omega⟩⟩

set_option maxHeartbeats 4000000 in
set_option maxRecDepth 20000 in
theorem c_X12_gets {E : zE} {l : Launch} (hst : l.stackTraces = false) (a : Nat) (x1 : Int) (x2 : Int) (x3 : Int) : Con E l yX12_gets cX12_gets 6 (some .int) { frames := 0, cells := 0, slots := 0, locals := 0 } (fun G s vs => vs = [.ref a, .int (zI x1), .int (zI x2), .int (zI x3)] ∧ zGK G ∧ zSK G s ∧ (gT G a = 13) ∧ (0 ≤ x1 ∧ x1 ≤ 0) ∧ (0 ≤ x2 ∧ x2 ≤ 0) ∧ (0 ≤ x3 ∧ x3 ≤ 99)) (fun G s _ => pI (fun r G2 s2 => G2 = G ∧ s2 = s ∧ (0 ≤ r ∧ r ≤ 0))) := by
  refine Con.mk hst (by decide) (fun G s vs h => by rw [h.1]; exact Nat.le_of_ble_eq_true rfl) ?_
  rintro X G s0 vs ⟨rfl, hG, hS0, ha, hx1, hx2, hx3⟩ rfl hx hq
  show JJ X E 6 G s0 0 0 [(0, .ref a), (1, .int (zI x1)), (2, .int (zI x2)), (3, .int (zI x3))] 0 []
  refine j_iconst hx dX12_gets_0 ?_
  refine j_istore hx [(4, .int (zI 0)), (0, .ref a), (1, .int (zI x1)), (2, .int (zI x2)), (3, .int (zI x3))] dX12_gets_1 (by decide) rfl ?_
  refine j_iconst hx dX12_gets_3 ?_
  refine j_istore hx [(5, .int (zI 0)), (4, .int (zI 0)), (0, .ref a), (1, .int (zI x1)), (2, .int (zI x2)), (3, .int (zI x3))] dX12_gets_4 (by decide) rfl ?_
  refine j_iload hx 0 dX12_gets_6 rfl ?_
  refine j_aload_n hx 2 dX12_gets_8 rfl ?_
  have f1 := zf hS0 ha (k := 26) rfl
  refine g13_26 hx hG ha kf_RX12_195 rfl dX12_gets_9 ?_
  refine j_icmp_ge hx 95 dX12_gets_12 rfl ⟨by decide, by decide⟩ (by omega) (fun h2 => ?_) (fun h2 => absurd h2 (by omega))
  refine j_iload hx 1 dX12_gets_95 rfl ?_
  exact j_iret hx hq rfl (by decide) (by decide) dX12_gets_97 ⟨0, rfl, rfl, rfl, (by omega)⟩

theorem lk_RX12_469 : LkV RX12 469 RX12 yX12_gets cX12_gets 6 (some .int) 3 := ⟨km_RX12_469, ki_yX12_gets, ks_RX12_yX12_gets, kn_RX12, kc_yX12_gets, rfl, by decide +kernel, by decide +kernel, by decide +kernel⟩
set_option maxHeartbeats 4000000 in
set_option maxRecDepth 20000 in
theorem c_X12_moments {E : zE} {l : Launch} (hst : l.stackTraces = false) (a : Nat) (x1 : Int) (x2 : Int) (x3 : Int) : Con E l yX12_moments cX12_moments 4 (some .int) { frames := 1, cells := 0, slots := 0, locals := 25 } (fun G s vs => vs = [.ref a, .int (zI x1), .int (zI x2), .int (zI x3)] ∧ zGK G ∧ zSK G s ∧ (gT G a = 13) ∧ ((-2147483648) ≤ x1 ∧ x1 ≤ 2147483647) ∧ ((-2147483648) ≤ x2 ∧ x2 ≤ 2147483647) ∧ ((-2147483648) ≤ x3 ∧ x3 ≤ 2147483647) ∧ (zS0m G s)) (fun G s _ => pI (fun r G2 s2 => G2 = G ∧ zSK G s2 ∧ zFr [13, 71] G s s2 ∧ (0 ≤ r ∧ r ≤ 0) ∧ (((x1 = 0 ∧ x2 = 0 ∧ 0 ≤ x3 ∧ x3 ≤ 99) → s2 a 0 = 0) ∧ (¬ (x1 = 0 ∧ x2 = 0 ∧ 0 ≤ x3 ∧ x3 ≤ 99) → s2 a 0 = 1)))) := by
  refine Con.mk hst (by decide) (fun G s vs h => by rw [h.1]; exact Nat.le_of_ble_eq_true rfl) ?_
  rintro X G s0 vs ⟨rfl, hG, hS0, ha, hx1, hx2, hx3, hF0⟩ rfl hx hq
  show JJ X E 4 G s0 0 0 [(0, .ref a), (1, .int (zI x1)), (2, .int (zI x2)), (3, .int (zI x3))] 0 []
  refine j_aload_n hx 0 dX12_moments_0 rfl ?_
  refine j_iconst hx dX12_moments_1 ?_
  refine p13_0 hx hG ha kf_RX12_3 dX12_moments_2 ?_
  obtain ⟨s1, e_s1⟩ : ∃ z, z = zU s0 a 0 0 := ⟨_, rfl⟩
  rw [← e_s1]
  have hS_s1 : zSK G s1 := by rw [e_s1]; exact zSK_F hS0 ha rfl rfl rfl (by omega)
  refine j_aload_n hx 0 dX12_moments_5 rfl ?_
  refine j_iload_n hx 1 dX12_moments_6 rfl ?_
  refine j_iconst hx dX12_moments_7 ?_
  refine j_aload_n hx 0 dX12_moments_8 rfl ?_
  have f1 := z0fm hF0 ha (by decide) (k := 26) rfl
  refine g13_26 hx hG ha kf_RX12_195 (v := (s0 a 26)) (by rw [e_s1, zU_at (Or.inr (by decide))]) dX12_moments_9 ?_
  refine j_callS hx (c_X12_within hst x1 0 ((s0 a 26))) lk_RX12_314 [.int (zI x1), .int (zI 0), .int (zI ((s0 a 26)))] ⟨rfl, hG, hS_s1, (by omega), (by omega), (by omega)⟩ rfl rfl ⟨by decide, by decide⟩ ⟨by decide, by decide⟩ (k2 := 0) (n2 := 0) rfl rfl (Nat.le_of_ble_eq_true rfl) dX12_moments_12 (kIP (fun v2 q3 => ?_))
  refine j_if_eq hx 44 dX12_moments_15 rfl (by omega) (fun h4 => ?_) (fun h4 => ?_)
  · skip
    refine j_iconst hx dX12_moments_44 ?_
    refine j_iconst hx dX12_moments_45 ?_
    refine j_iconst hx dX12_moments_46 ?_
    refine j_callV hx hG (c_X12_may hst a 0 1 1) lk_RX12_240 ha (by decide) rfl rfl rfl rfl [.int (zI 0), .int (zI 1), .int (zI 1)] ⟨rfl, hG, hS_s1, ha, (by omega), (by omega), (by omega)⟩ rfl rfl ⟨by decide, by decide⟩ ⟨by decide, by decide⟩ (k2 := 0) (n2 := 0) rfl rfl (Nat.le_of_ble_eq_true rfl) dX12_moments_47 (kIM (fun v5 s2 hS_s2 hF_s2 q6 => ?_))
    refine j_if_ne hx 55 dX12_moments_50 rfl (by omega) (fun h7 => ?_) (fun h7 => ?_)
    · skip
      refine j_aload_n hx 0 dX12_moments_55 rfl ?_
      refine j_iload_n hx 1 dX12_moments_56 rfl ?_
      refine j_iload_n hx 2 dX12_moments_57 rfl ?_
      refine j_iload_n hx 3 dX12_moments_58 rfl ?_
      refine j_callV hx hG (c_X12_gets hst a x1 x2 x3) lk_RX12_469 ha (by decide) rfl rfl rfl rfl [.int (zI x1), .int (zI x2), .int (zI x3)] ⟨rfl, hG, hS_s2, ha, (by omega), (by omega), (by omega)⟩ rfl rfl ⟨by decide, by decide⟩ ⟨by decide, by decide⟩ (k2 := 0) (n2 := 0) rfl rfl (Nat.le_of_ble_eq_true rfl) dX12_moments_59 (kIP (fun v8 q9 => ?_))
      have f10 := zf hS_s2 ha (k := 0) rfl
      exact j_iret hx hq rfl (by decide) (by decide) dX12_moments_62 ⟨v8, rfl, rfl, hS_s2, (zFr_t (zFr_u zFr_rf e_s1 ha (by decide)) hF_s2 (by decide)), ⟨(by omega), by omega⟩⟩
    · skip
      refine j_iconst hx dX12_moments_53 ?_
      have f11 := zf hS_s2 ha (k := 0) rfl
      exact j_iret hx hq rfl (by decide) (by decide) dX12_moments_54 ⟨0, rfl, rfl, hS_s2, (zFr_t (zFr_u zFr_rf e_s1 ha (by decide)) hF_s2 (by decide)), ⟨(by omega), by omega⟩⟩
  · skip
    refine j_iload_n hx 2 dX12_moments_18 rfl ?_
    refine j_iconst hx dX12_moments_19 ?_
    refine j_aload_n hx 0 dX12_moments_20 rfl ?_
    refine g13_26 hx hG ha kf_RX12_195 (v := (s0 a 26)) (by rw [e_s1, zU_at (Or.inr (by decide))]) dX12_moments_21 ?_
    refine j_callS hx (c_X12_within hst x2 0 ((s0 a 26))) lk_RX12_314 [.int (zI x2), .int (zI 0), .int (zI ((s0 a 26)))] ⟨rfl, hG, hS_s1, (by omega), (by omega), (by omega)⟩ rfl rfl ⟨by decide, by decide⟩ ⟨by decide, by decide⟩ (k2 := 0) (n2 := 0) rfl rfl (Nat.le_of_ble_eq_true rfl) dX12_moments_24 (kIP (fun v12 q13 => ?_))
    refine j_if_eq hx 44 dX12_moments_27 rfl (by omega) (fun h14 => ?_) (fun h14 => ?_)
    · skip
      refine j_iconst hx dX12_moments_44 ?_
      refine j_iconst hx dX12_moments_45 ?_
      refine j_iconst hx dX12_moments_46 ?_
      refine j_callV hx hG (c_X12_may hst a 0 1 1) lk_RX12_240 ha (by decide) rfl rfl rfl rfl [.int (zI 0), .int (zI 1), .int (zI 1)] ⟨rfl, hG, hS_s1, ha, (by omega), (by omega), (by omega)⟩ rfl rfl ⟨by decide, by decide⟩ ⟨by decide, by decide⟩ (k2 := 0) (n2 := 0) rfl rfl (Nat.le_of_ble_eq_true rfl) dX12_moments_47 (kIM (fun v15 s3 hS_s3 hF_s3 q16 => ?_))
      refine j_if_ne hx 55 dX12_moments_50 rfl (by omega) (fun h17 => ?_) (fun h17 => ?_)
      · skip
        refine j_aload_n hx 0 dX12_moments_55 rfl ?_
        refine j_iload_n hx 1 dX12_moments_56 rfl ?_
        refine j_iload_n hx 2 dX12_moments_57 rfl ?_
        refine j_iload_n hx 3 dX12_moments_58 rfl ?_
        refine j_callV hx hG (c_X12_gets hst a x1 x2 x3) lk_RX12_469 ha (by decide) rfl rfl rfl rfl [.int (zI x1), .int (zI x2), .int (zI x3)] ⟨rfl, hG, hS_s3, ha, (by omega), (by omega), (by omega)⟩ rfl rfl ⟨by decide, by decide⟩ ⟨by decide, by decide⟩ (k2 := 0) (n2 := 0) rfl rfl (Nat.le_of_ble_eq_true rfl) dX12_moments_59 (kIP (fun v18 q19 => ?_))
        have f20 := zf hS_s3 ha (k := 0) rfl
        exact j_iret hx hq rfl (by decide) (by decide) dX12_moments_62 ⟨v18, rfl, rfl, hS_s3, (zFr_t (zFr_u zFr_rf e_s1 ha (by decide)) hF_s3 (by decide)), ⟨(by omega), by omega⟩⟩
      · skip
        refine j_iconst hx dX12_moments_53 ?_
        have f21 := zf hS_s3 ha (k := 0) rfl
        exact j_iret hx hq rfl (by decide) (by decide) dX12_moments_54 ⟨0, rfl, rfl, hS_s3, (zFr_t (zFr_u zFr_rf e_s1 ha (by decide)) hF_s3 (by decide)), ⟨(by omega), by omega⟩⟩
    · skip
      refine j_iload_n hx 3 dX12_moments_30 rfl ?_
      refine j_iconst hx dX12_moments_31 ?_
      refine j_bipush hx dX12_moments_32 rfl ?_
      refine j_callS hx (c_X12_within hst x3 0 99) lk_RX12_314 [.int (zI x3), .int (zI 0), .int (zI 99)] ⟨rfl, hG, hS_s1, (by omega), (by omega), (by omega)⟩ rfl rfl ⟨by decide, by decide⟩ ⟨by decide, by decide⟩ (k2 := 0) (n2 := 0) rfl rfl (Nat.le_of_ble_eq_true rfl) dX12_moments_34 (kIP (fun v22 q23 => ?_))
      refine j_if_eq hx 44 dX12_moments_37 rfl (by omega) (fun h24 => ?_) (fun h24 => ?_)
      · skip
        refine j_iconst hx dX12_moments_44 ?_
        refine j_iconst hx dX12_moments_45 ?_
        refine j_iconst hx dX12_moments_46 ?_
        refine j_callV hx hG (c_X12_may hst a 0 1 1) lk_RX12_240 ha (by decide) rfl rfl rfl rfl [.int (zI 0), .int (zI 1), .int (zI 1)] ⟨rfl, hG, hS_s1, ha, (by omega), (by omega), (by omega)⟩ rfl rfl ⟨by decide, by decide⟩ ⟨by decide, by decide⟩ (k2 := 0) (n2 := 0) rfl rfl (Nat.le_of_ble_eq_true rfl) dX12_moments_47 (kIM (fun v25 s4 hS_s4 hF_s4 q26 => ?_))
        refine j_if_ne hx 55 dX12_moments_50 rfl (by omega) (fun h27 => ?_) (fun h27 => ?_)
        · skip
          refine j_aload_n hx 0 dX12_moments_55 rfl ?_
          refine j_iload_n hx 1 dX12_moments_56 rfl ?_
          refine j_iload_n hx 2 dX12_moments_57 rfl ?_
          refine j_iload_n hx 3 dX12_moments_58 rfl ?_
          refine j_callV hx hG (c_X12_gets hst a x1 x2 x3) lk_RX12_469 ha (by decide) rfl rfl rfl rfl [.int (zI x1), .int (zI x2), .int (zI x3)] ⟨rfl, hG, hS_s4, ha, (by omega), (by omega), (by omega)⟩ rfl rfl ⟨by decide, by decide⟩ ⟨by decide, by decide⟩ (k2 := 0) (n2 := 0) rfl rfl (Nat.le_of_ble_eq_true rfl) dX12_moments_59 (kIP (fun v28 q29 => ?_))
          have f30 := zf hS_s4 ha (k := 0) rfl
          exact j_iret hx hq rfl (by decide) (by decide) dX12_moments_62 ⟨v28, rfl, rfl, hS_s4, (zFr_t (zFr_u zFr_rf e_s1 ha (by decide)) hF_s4 (by decide)), ⟨(by omega), by omega⟩⟩
        · skip
          refine j_iconst hx dX12_moments_53 ?_
          have f31 := zf hS_s4 ha (k := 0) rfl
          exact j_iret hx hq rfl (by decide) (by decide) dX12_moments_54 ⟨0, rfl, rfl, hS_s4, (zFr_t (zFr_u zFr_rf e_s1 ha (by decide)) hF_s4 (by decide)), ⟨(by omega), by omega⟩⟩
      · skip
        refine j_iconst hx dX12_moments_40 ?_
        refine j_goto hx 45 dX12_moments_41 rfl ?_
        refine j_iconst hx dX12_moments_45 ?_
        refine j_iconst hx dX12_moments_46 ?_
        refine j_callV hx hG (c_X12_may hst a 1 1 1) lk_RX12_240 ha (by decide) rfl rfl rfl rfl [.int (zI 1), .int (zI 1), .int (zI 1)] ⟨rfl, hG, hS_s1, ha, (by omega), (by omega), (by omega)⟩ rfl rfl ⟨by decide, by decide⟩ ⟨by decide, by decide⟩ (k2 := 0) (n2 := 0) rfl rfl (Nat.le_of_ble_eq_true rfl) dX12_moments_47 (kIM (fun v32 s5 hS_s5 hF_s5 q33 => ?_))
        refine j_if_ne hx 55 dX12_moments_50 rfl (by omega) (fun h34 => ?_) (fun h34 => ?_)
        · skip
          refine j_aload_n hx 0 dX12_moments_55 rfl ?_
          refine j_iload_n hx 1 dX12_moments_56 rfl ?_
          refine j_iload_n hx 2 dX12_moments_57 rfl ?_
          refine j_iload_n hx 3 dX12_moments_58 rfl ?_
          refine j_callV hx hG (c_X12_gets hst a x1 x2 x3) lk_RX12_469 ha (by decide) rfl rfl rfl rfl [.int (zI x1), .int (zI x2), .int (zI x3)] ⟨rfl, hG, hS_s5, ha, (by omega), (by omega), (by omega)⟩ rfl rfl ⟨by decide, by decide⟩ ⟨by decide, by decide⟩ (k2 := 0) (n2 := 0) rfl rfl (Nat.le_of_ble_eq_true rfl) dX12_moments_59 (kIP (fun v35 q36 => ?_))
          have f37 := zf hS_s5 ha (k := 0) rfl
          exact j_iret hx hq rfl (by decide) (by decide) dX12_moments_62 ⟨v35, rfl, rfl, hS_s5, (zFr_t (zFr_u zFr_rf e_s1 ha (by decide)) hF_s5 (by decide)), ⟨(by omega), by omega⟩⟩
        · skip
          refine j_iconst hx dX12_moments_53 ?_
          have f38 := zf hS_s5 ha (k := 0) rfl
          exact j_iret hx hq rfl (by decide) (by decide) dX12_moments_54 ⟨0, rfl, rfl, hS_s5, (zFr_t (zFr_u zFr_rf e_s1 ha (by decide)) hF_s5 (by decide)), ⟨(by omega), by omega⟩⟩

set_option maxHeartbeats 4000000 in
set_option maxRecDepth 20000 in
theorem c_X12_isBest {E : zE} {l : Launch} (hst : l.stackTraces = false) (a : Nat) (x1 : Int) (x2 : Int) (x3 : Int) : Con E l yX12_isBest cX12_isBest 5 (some .boolean) { frames := 1, cells := 0, slots := 0, locals := 25 } (fun G s vs => vs = [.ref a, .int (zI x1), .int (zI x2), .int (zI x3)] ∧ zGK G ∧ zSK G s ∧ (gT G a = 13) ∧ (0 ≤ x1 ∧ x1 ≤ 0) ∧ (0 ≤ x2 ∧ x2 ≤ 0) ∧ (0 ≤ x3 ∧ x3 ≤ 99)) (fun G s _ => pI (fun r G2 s2 => G2 = G ∧ s2 = s ∧ (1 ≤ r ∧ r ≤ 1))) := by
  refine Con.mk hst (by decide) (fun G s vs h => by rw [h.1]; exact Nat.le_of_ble_eq_true rfl) ?_
  rintro X G s0 vs ⟨rfl, hG, hS0, ha, hx1, hx2, hx3⟩ rfl hx hq
  show JJ X E 5 G s0 0 0 [(0, .ref a), (1, .int (zI x1)), (2, .int (zI x2)), (3, .int (zI x3))] 0 []
  refine j_iconst hx dX12_isBest_0 ?_
  refine j_istore hx [(4, .int (zI 0)), (0, .ref a), (1, .int (zI x1)), (2, .int (zI x2)), (3, .int (zI x3))] dX12_isBest_1 (by decide) rfl ?_
  have c3_1 : ∀ (m_c3_1 : Nat) (v1 : Int), 2147483648 - v1 < m_c3_1 → (0 ≤ v1 ∧ v1 ≤ 1) → JJ X E 5 G s0 0 0 [(0, .ref a), (1, .int (zI x1)), (2, .int (zI x2)), (3, .int (zI x3)), (4, .int (zI v1))] 3 [] := by
    intro m_c3_1
    induction m_c3_1 with
    | zero => intro v1 hm_c3_1 f2; exfalso; omega
    | succ m_c3_1 ih_c3_1 => 
      intro v1 hm_c3_1 f2
      refine j_iload hx 4 dX12_isBest_3 rfl ?_
      refine j_aload_n hx 0 dX12_isBest_5 rfl ?_
      have f2 := zf hS0 ha (k := 26) rfl
      refine g13_26 hx hG ha kf_RX12_195 rfl dX12_isBest_6 ?_
      refine j_icmp_gt hx 38 dX12_isBest_9 rfl (by omega) (by omega) (fun h3 => ?_) (fun h3 => ?_)
      · skip
        refine j_iconst hx dX12_isBest_38 ?_
        exact j_zret hx hq rfl (by decide) (by decide) dX12_isBest_39 (by omega) ⟨1, rfl, rfl, rfl, (by omega)⟩
      · skip
        refine j_aload_n hx 0 dX12_isBest_12 rfl ?_
        refine j_iload hx 4 dX12_isBest_13 rfl ?_
        refine j_iload_n hx 2 dX12_isBest_15 rfl ?_
        refine j_iload_n hx 3 dX12_isBest_16 rfl ?_
        refine j_callV hx hG (c_X12_gets hst a v1 x2 x3) lk_RX12_469 ha (by decide) rfl rfl rfl rfl [.int (zI v1), .int (zI x2), .int (zI x3)] ⟨rfl, hG, hS0, ha, (by omega), (by omega), (by omega)⟩ rfl rfl ⟨by decide, by decide⟩ ⟨by decide, by decide⟩ (k2 := 0) (n2 := 0) rfl rfl (Nat.le_of_ble_eq_true rfl) dX12_isBest_17 (kIP (fun v4 q5 => ?_))
        refine j_aload_n hx 0 dX12_isBest_20 rfl ?_
        refine j_iload_n hx 1 dX12_isBest_21 rfl ?_
        refine j_iload_n hx 2 dX12_isBest_22 rfl ?_
        refine j_iload_n hx 3 dX12_isBest_23 rfl ?_
        refine j_callV hx hG (c_X12_gets hst a x1 x2 x3) lk_RX12_469 ha (by decide) rfl rfl rfl rfl [.int (zI x1), .int (zI x2), .int (zI x3)] ⟨rfl, hG, hS0, ha, (by omega), (by omega), (by omega)⟩ rfl rfl ⟨by decide, by decide⟩ ⟨by decide, by decide⟩ (k2 := 0) (n2 := 0) rfl rfl (Nat.le_of_ble_eq_true rfl) dX12_isBest_24 (kIP (fun v6 q7 => ?_))
        refine j_icmp_le hx 32 dX12_isBest_27 rfl (by omega) (by omega) (fun h8 => ?_) (fun h8 => absurd h8 (by omega))
        refine j_iinc hx 4 [(4, .int (zI (v1 + 1))), (0, .ref a), (1, .int (zI x1)), (2, .int (zI x2)), (3, .int (zI x3))] dX12_isBest_32 rfl (by omega) (by decide) rfl ?_
        refine j_goto hx 3 dX12_isBest_35 rfl ?_
        exact j_sub [1, 2, 3, 4, 0] [(0, .ref a), (1, .int (zI x1)), (2, .int (zI x2)), (3, .int (zI x3)), (4, .int (zI (v1 + 1)))] rfl (ih_c3_1 (v1 + 1) (by omega) (by omega))
  exact j_sub [1, 2, 3, 4, 0] [(0, .ref a), (1, .int (zI x1)), (2, .int (zI x2)), (3, .int (zI x3)), (4, .int (zI 0))] rfl (c3_1 (2147483648 * 4) 0 (by omega) (by omega))

theorem lk_RX12_472 : LkV RX12 472 RX12 yX12_isBest cX12_isBest 5 (some .boolean) 3 := ⟨km_RX12_472, ki_yX12_isBest, ks_RX12_yX12_isBest, kn_RX12, kc_yX12_isBest, rfl, by decide +kernel, by decide +kernel, by decide +kernel⟩
set_option maxHeartbeats 4000000 in
set_option maxRecDepth 20000 in
theorem c_X12_rests {E : zE} {l : Launch} (hst : l.stackTraces = false) (a : Nat) (x1 : Int) (x2 : Int) : Con E l yX12_rests cX12_rests 7 (some .int) { frames := 2, cells := 0, slots := 0, locals := 49 } (fun G s vs => vs = [.ref a, .int (zI x1), .int (zI x2)] ∧ zGK G ∧ zSK G s ∧ (gT G a = 13) ∧ ((-2147483648) ≤ x1 ∧ x1 ≤ 2147483647) ∧ ((-2147483648) ≤ x2 ∧ x2 ≤ 2147483647) ∧ (zS0m G s)) (fun G s _ => pI (fun r G2 s2 => G2 = G ∧ zSK G s2 ∧ zFr [13, 71] G s s2 ∧ (0 ≤ r ∧ r ≤ 1) ∧ (((0 ≤ x1 ∧ x1 ≤ 99 ∧ 0 ≤ x2 ∧ x2 ≤ 1) → s2 a 0 = 0 ∧ ((x2 = 0 → r = 1) ∧ (x2 ≠ 0 → r = 0))) ∧ (¬ (0 ≤ x1 ∧ x1 ≤ 99 ∧ 0 ≤ x2 ∧ x2 ≤ 1) → s2 a 0 = 1)))) := by
  refine Con.mk hst (by decide) (fun G s vs h => by rw [h.1]; exact Nat.le_of_ble_eq_true rfl) ?_
  rintro X G s0 vs ⟨rfl, hG, hS0, ha, hx1, hx2, hF0⟩ rfl hx hq
  show JJ X E 7 G s0 0 0 [(0, .ref a), (1, .int (zI x1)), (2, .int (zI x2))] 0 []
  refine j_aload_n hx 0 dX12_rests_0 rfl ?_
  refine j_iconst hx dX12_rests_1 ?_
  refine p13_0 hx hG ha kf_RX12_3 dX12_rests_2 ?_
  obtain ⟨s1, e_s1⟩ : ∃ z, z = zU s0 a 0 0 := ⟨_, rfl⟩
  rw [← e_s1]
  have hS_s1 : zSK G s1 := by rw [e_s1]; exact zSK_F hS0 ha rfl rfl rfl (by omega)
  refine j_aload_n hx 0 dX12_rests_5 rfl ?_
  refine j_iload_n hx 1 dX12_rests_6 rfl ?_
  refine j_iconst hx dX12_rests_7 ?_
  refine j_bipush hx dX12_rests_8 rfl ?_
  refine j_callS hx (c_X12_within hst x1 0 99) lk_RX12_314 [.int (zI x1), .int (zI 0), .int (zI 99)] ⟨rfl, hG, hS_s1, (by omega), (by omega), (by omega)⟩ rfl rfl ⟨by decide, by decide⟩ ⟨by decide, by decide⟩ (k2 := 0) (n2 := 0) rfl rfl (Nat.le_of_ble_eq_true rfl) dX12_rests_10 (kIP (fun v1 q2 => ?_))
  refine j_if_eq hx 29 dX12_rests_13 rfl (by omega) (fun h3 => ?_) (fun h3 => ?_)
  · skip
    refine j_iconst hx dX12_rests_29 ?_
    refine j_iconst hx dX12_rests_30 ?_
    refine j_iconst hx dX12_rests_31 ?_
    refine j_callV hx hG (c_X12_may hst a 0 1 1) lk_RX12_240 ha (by decide) rfl rfl rfl rfl [.int (zI 0), .int (zI 1), .int (zI 1)] ⟨rfl, hG, hS_s1, ha, (by omega), (by omega), (by omega)⟩ rfl rfl ⟨by decide, by decide⟩ ⟨by decide, by decide⟩ (k2 := 0) (n2 := 0) rfl rfl (Nat.le_of_ble_eq_true rfl) dX12_rests_32 (kIM (fun v4 s2 hS_s2 hF_s2 q5 => ?_))
    refine j_if_ne hx 40 dX12_rests_35 rfl (by omega) (fun h6 => ?_) (fun h6 => ?_)
    · skip
      refine j_iconst hx dX12_rests_40 ?_
      refine j_istore_n hx [(3, .int (zI 0)), (0, .ref a), (1, .int (zI x1)), (2, .int (zI x2))] dX12_rests_41 (by decide) rfl ?_
      refine j_iconst hx dX12_rests_42 ?_
      refine j_istore hx [(4, .int (zI (-1))), (3, .int (zI 0)), (0, .ref a), (1, .int (zI x1)), (2, .int (zI x2))] dX12_rests_43 (by decide) rfl ?_
      refine j_iconst hx dX12_rests_45 ?_
      refine j_istore hx [(5, .int (zI 0)), (4, .int (zI (-1))), (3, .int (zI 0)), (0, .ref a), (1, .int (zI x1)), (2, .int (zI x2))] dX12_rests_46 (by decide) rfl ?_
      refine j_iload hx 0 dX12_rests_48 rfl ?_
      refine j_aload_n hx 3 dX12_rests_50 rfl ?_
      have f7 := zf hS_s2 ha (k := 26) rfl
      refine g13_26 hx hG ha kf_RX12_195 rfl dX12_rests_51 ?_
      refine j_icmp_gt hx 127 dX12_rests_54 rfl ⟨by decide, by decide⟩ (by omega) (fun h8 => absurd h8 (by omega)) (fun h8 => ?_)
      refine j_iconst hx dX12_rests_57 ?_
      refine j_istore hx [(6, .int (zI 0)), (5, .int (zI 0)), (4, .int (zI (-1))), (3, .int (zI 0)), (0, .ref a), (1, .int (zI x1)), (2, .int (zI x2))] dX12_rests_58 (by decide) rfl ?_
      refine j_iload hx 0 dX12_rests_60 rfl ?_
      refine j_aload_n hx 4 dX12_rests_62 rfl ?_
      refine g13_26 hx hG ha kf_RX12_195 rfl dX12_rests_63 ?_
      refine j_icmp_gt hx 121 dX12_rests_66 rfl ⟨by decide, by decide⟩ (by omega) (fun h9 => absurd h9 (by omega)) (fun h9 => ?_)
      refine j_aload_n hx 4 dX12_rests_69 rfl ?_
      refine j_iload hx 1 dX12_rests_70 rfl ?_
      refine j_iload hx 0 dX12_rests_72 rfl ?_
      refine j_iload_n hx 5 dX12_rests_74 rfl ?_
      refine j_callV hx hG (c_X12_isBest hst a 0 0 x1) lk_RX12_472 ha (by decide) rfl rfl rfl rfl [.int (zI 0), .int (zI 0), .int (zI x1)] ⟨rfl, hG, hS_s2, ha, (by omega), (by omega), (by omega)⟩ rfl rfl ⟨by decide, by decide⟩ ⟨by decide, by decide⟩ (k2 := 0) (n2 := 0) rfl rfl (Nat.le_of_ble_eq_true rfl) dX12_rests_75 (kIP (fun v10 q11 => ?_))
      refine j_if_eq hx 115 dX12_rests_78 rfl (by omega) (fun h12 => absurd h12 (by omega)) (fun h12 => ?_)
      refine j_aload_n hx 4 dX12_rests_81 rfl ?_
      refine j_iload hx 0 dX12_rests_82 rfl ?_
      refine j_iload hx 1 dX12_rests_84 rfl ?_
      refine j_iload_n hx 5 dX12_rests_86 rfl ?_
      refine j_callV hx hG (c_X12_isBest hst a 0 0 x1) lk_RX12_472 ha (by decide) rfl rfl rfl rfl [.int (zI 0), .int (zI 0), .int (zI x1)] ⟨rfl, hG, hS_s2, ha, (by omega), (by omega), (by omega)⟩ rfl rfl ⟨by decide, by decide⟩ ⟨by decide, by decide⟩ (k2 := 0) (n2 := 0) rfl rfl (Nat.le_of_ble_eq_true rfl) dX12_rests_87 (kIP (fun v13 q14 => ?_))
      refine j_if_ne hx 96 dX12_rests_90 rfl (by omega) (fun h15 => ?_) (fun h15 => absurd h15 (by omega))
      refine j_iinc hx 3 [(3, .int (zI 1)), (6, .int (zI 0)), (5, .int (zI 0)), (4, .int (zI (-1))), (0, .ref a), (1, .int (zI x1)), (2, .int (zI x2))] dX12_rests_96 rfl (by omega) (by decide) rfl ?_
      refine j_iload hx 3 dX12_rests_99 rfl ?_
      refine j_iconst hx dX12_rests_101 ?_
      refine j_icmp_ne hx 115 dX12_rests_102 rfl ⟨by decide, by decide⟩ ⟨by decide, by decide⟩ (fun h16 => absurd h16 (by omega)) (fun h16 => ?_)
      refine j_bipush hx dX12_rests_105 rfl ?_
      refine j_iload hx 2 dX12_rests_107 rfl ?_
      refine j_imul hx (r := 0) dX12_rests_109 (by omega) ?_
      refine j_iload hx 1 dX12_rests_110 rfl ?_
      refine j_iadd hx (r := 0) dX12_rests_112 (by omega) ?_
      refine j_istore hx [(4, .int (zI 0)), (3, .int (zI 1)), (6, .int (zI 0)), (5, .int (zI 0)), (0, .ref a), (1, .int (zI x1)), (2, .int (zI x2))] dX12_rests_113 (by decide) rfl ?_
      refine j_iinc hx 2 [(6, .int (zI 1)), (4, .int (zI 0)), (3, .int (zI 1)), (5, .int (zI 0)), (0, .ref a), (1, .int (zI x1)), (2, .int (zI x2))] dX12_rests_115 rfl (by omega) (by decide) rfl ?_
      refine j_goto hx 60 dX12_rests_118 rfl ?_
      refine j_iload hx 0 dX12_rests_60 rfl ?_
      refine j_aload_n hx 4 dX12_rests_62 rfl ?_
      refine g13_26 hx hG ha kf_RX12_195 rfl dX12_rests_63 ?_
      refine j_icmp_gt hx 121 dX12_rests_66 rfl ⟨by decide, by decide⟩ (by omega) (fun h17 => ?_) (fun h17 => absurd h17 (by omega))
      refine j_iinc hx 3 [(5, .int (zI 1)), (6, .int (zI 1)), (4, .int (zI 0)), (3, .int (zI 1)), (0, .ref a), (1, .int (zI x1)), (2, .int (zI x2))] dX12_rests_121 rfl (by omega) (by decide) rfl ?_
      refine j_goto hx 48 dX12_rests_124 rfl ?_
      refine j_iload hx 0 dX12_rests_48 rfl ?_
      refine j_aload_n hx 4 dX12_rests_50 rfl ?_
      refine g13_26 hx hG ha kf_RX12_195 rfl dX12_rests_51 ?_
      refine j_icmp_gt hx 127 dX12_rests_54 rfl ⟨by decide, by decide⟩ (by omega) (fun h18 => ?_) (fun h18 => absurd h18 (by omega))
      refine j_iload_n hx 6 dX12_rests_127 rfl ?_
      refine j_if_ne hx 135 dX12_rests_128 rfl (by omega) (fun h19 => ?_) (fun h19 => ?_)
      · skip
        refine j_iload hx 2 dX12_rests_135 rfl ?_
        have f20 := zf hS_s2 ha (k := 0) rfl
        exact j_iret hx hq rfl (by decide) (by decide) dX12_rests_137 ⟨0, rfl, rfl, hS_s2, (zFr_t (zFr_u zFr_rf e_s1 ha (by decide)) hF_s2 (by decide)), ⟨(by omega), by omega⟩⟩
      · skip
        refine j_iload_n hx 3 dX12_rests_131 rfl ?_
        refine j_goto hx 137 dX12_rests_132 rfl ?_
        have f21 := zf hS_s2 ha (k := 0) rfl
        exact j_iret hx hq rfl (by decide) (by decide) dX12_rests_137 ⟨1, rfl, rfl, hS_s2, (zFr_t (zFr_u zFr_rf e_s1 ha (by decide)) hF_s2 (by decide)), ⟨(by omega), by omega⟩⟩
    · skip
      refine j_iconst hx dX12_rests_38 ?_
      have f22 := zf hS_s2 ha (k := 0) rfl
      exact j_iret hx hq rfl (by decide) (by decide) dX12_rests_39 ⟨0, rfl, rfl, hS_s2, (zFr_t (zFr_u zFr_rf e_s1 ha (by decide)) hF_s2 (by decide)), ⟨(by omega), by omega⟩⟩
  · skip
    refine j_iload_n hx 2 dX12_rests_16 rfl ?_
    refine j_iconst hx dX12_rests_17 ?_
    refine j_iconst hx dX12_rests_18 ?_
    refine j_callS hx (c_X12_within hst x2 0 1) lk_RX12_314 [.int (zI x2), .int (zI 0), .int (zI 1)] ⟨rfl, hG, hS_s1, (by omega), (by omega), (by omega)⟩ rfl rfl ⟨by decide, by decide⟩ ⟨by decide, by decide⟩ (k2 := 0) (n2 := 0) rfl rfl (Nat.le_of_ble_eq_true rfl) dX12_rests_19 (kIP (fun v23 q24 => ?_))
    refine j_if_eq hx 29 dX12_rests_22 rfl (by omega) (fun h25 => ?_) (fun h25 => ?_)
    · skip
      refine j_iconst hx dX12_rests_29 ?_
      refine j_iconst hx dX12_rests_30 ?_
      refine j_iconst hx dX12_rests_31 ?_
      refine j_callV hx hG (c_X12_may hst a 0 1 1) lk_RX12_240 ha (by decide) rfl rfl rfl rfl [.int (zI 0), .int (zI 1), .int (zI 1)] ⟨rfl, hG, hS_s1, ha, (by omega), (by omega), (by omega)⟩ rfl rfl ⟨by decide, by decide⟩ ⟨by decide, by decide⟩ (k2 := 0) (n2 := 0) rfl rfl (Nat.le_of_ble_eq_true rfl) dX12_rests_32 (kIM (fun v26 s3 hS_s3 hF_s3 q27 => ?_))
      refine j_if_ne hx 40 dX12_rests_35 rfl (by omega) (fun h28 => ?_) (fun h28 => ?_)
      · skip
        refine j_iconst hx dX12_rests_40 ?_
        refine j_istore_n hx [(3, .int (zI 0)), (0, .ref a), (1, .int (zI x1)), (2, .int (zI x2))] dX12_rests_41 (by decide) rfl ?_
        refine j_iconst hx dX12_rests_42 ?_
        refine j_istore hx [(4, .int (zI (-1))), (3, .int (zI 0)), (0, .ref a), (1, .int (zI x1)), (2, .int (zI x2))] dX12_rests_43 (by decide) rfl ?_
        refine j_iconst hx dX12_rests_45 ?_
        refine j_istore hx [(5, .int (zI 0)), (4, .int (zI (-1))), (3, .int (zI 0)), (0, .ref a), (1, .int (zI x1)), (2, .int (zI x2))] dX12_rests_46 (by decide) rfl ?_
        refine j_iload hx 0 dX12_rests_48 rfl ?_
        refine j_aload_n hx 3 dX12_rests_50 rfl ?_
        have f29 := zf hS_s3 ha (k := 26) rfl
        refine g13_26 hx hG ha kf_RX12_195 rfl dX12_rests_51 ?_
        refine j_icmp_gt hx 127 dX12_rests_54 rfl ⟨by decide, by decide⟩ (by omega) (fun h30 => absurd h30 (by omega)) (fun h30 => ?_)
        refine j_iconst hx dX12_rests_57 ?_
        refine j_istore hx [(6, .int (zI 0)), (5, .int (zI 0)), (4, .int (zI (-1))), (3, .int (zI 0)), (0, .ref a), (1, .int (zI x1)), (2, .int (zI x2))] dX12_rests_58 (by decide) rfl ?_
        refine j_iload hx 0 dX12_rests_60 rfl ?_
        refine j_aload_n hx 4 dX12_rests_62 rfl ?_
        refine g13_26 hx hG ha kf_RX12_195 rfl dX12_rests_63 ?_
        refine j_icmp_gt hx 121 dX12_rests_66 rfl ⟨by decide, by decide⟩ (by omega) (fun h31 => absurd h31 (by omega)) (fun h31 => ?_)
        refine j_aload_n hx 4 dX12_rests_69 rfl ?_
        refine j_iload hx 1 dX12_rests_70 rfl ?_
        refine j_iload hx 0 dX12_rests_72 rfl ?_
        refine j_iload_n hx 5 dX12_rests_74 rfl ?_
        refine j_callV hx hG (c_X12_isBest hst a 0 0 x1) lk_RX12_472 ha (by decide) rfl rfl rfl rfl [.int (zI 0), .int (zI 0), .int (zI x1)] ⟨rfl, hG, hS_s3, ha, (by omega), (by omega), (by omega)⟩ rfl rfl ⟨by decide, by decide⟩ ⟨by decide, by decide⟩ (k2 := 0) (n2 := 0) rfl rfl (Nat.le_of_ble_eq_true rfl) dX12_rests_75 (kIP (fun v32 q33 => ?_))
        refine j_if_eq hx 115 dX12_rests_78 rfl (by omega) (fun h34 => absurd h34 (by omega)) (fun h34 => ?_)
        refine j_aload_n hx 4 dX12_rests_81 rfl ?_
        refine j_iload hx 0 dX12_rests_82 rfl ?_
        refine j_iload hx 1 dX12_rests_84 rfl ?_
        refine j_iload_n hx 5 dX12_rests_86 rfl ?_
        refine j_callV hx hG (c_X12_isBest hst a 0 0 x1) lk_RX12_472 ha (by decide) rfl rfl rfl rfl [.int (zI 0), .int (zI 0), .int (zI x1)] ⟨rfl, hG, hS_s3, ha, (by omega), (by omega), (by omega)⟩ rfl rfl ⟨by decide, by decide⟩ ⟨by decide, by decide⟩ (k2 := 0) (n2 := 0) rfl rfl (Nat.le_of_ble_eq_true rfl) dX12_rests_87 (kIP (fun v35 q36 => ?_))
        refine j_if_ne hx 96 dX12_rests_90 rfl (by omega) (fun h37 => ?_) (fun h37 => absurd h37 (by omega))
        refine j_iinc hx 3 [(3, .int (zI 1)), (6, .int (zI 0)), (5, .int (zI 0)), (4, .int (zI (-1))), (0, .ref a), (1, .int (zI x1)), (2, .int (zI x2))] dX12_rests_96 rfl (by omega) (by decide) rfl ?_
        refine j_iload hx 3 dX12_rests_99 rfl ?_
        refine j_iconst hx dX12_rests_101 ?_
        refine j_icmp_ne hx 115 dX12_rests_102 rfl ⟨by decide, by decide⟩ ⟨by decide, by decide⟩ (fun h38 => absurd h38 (by omega)) (fun h38 => ?_)
        refine j_bipush hx dX12_rests_105 rfl ?_
        refine j_iload hx 2 dX12_rests_107 rfl ?_
        refine j_imul hx (r := 0) dX12_rests_109 (by omega) ?_
        refine j_iload hx 1 dX12_rests_110 rfl ?_
        refine j_iadd hx (r := 0) dX12_rests_112 (by omega) ?_
        refine j_istore hx [(4, .int (zI 0)), (3, .int (zI 1)), (6, .int (zI 0)), (5, .int (zI 0)), (0, .ref a), (1, .int (zI x1)), (2, .int (zI x2))] dX12_rests_113 (by decide) rfl ?_
        refine j_iinc hx 2 [(6, .int (zI 1)), (4, .int (zI 0)), (3, .int (zI 1)), (5, .int (zI 0)), (0, .ref a), (1, .int (zI x1)), (2, .int (zI x2))] dX12_rests_115 rfl (by omega) (by decide) rfl ?_
        refine j_goto hx 60 dX12_rests_118 rfl ?_
        refine j_iload hx 0 dX12_rests_60 rfl ?_
        refine j_aload_n hx 4 dX12_rests_62 rfl ?_
        refine g13_26 hx hG ha kf_RX12_195 rfl dX12_rests_63 ?_
        refine j_icmp_gt hx 121 dX12_rests_66 rfl ⟨by decide, by decide⟩ (by omega) (fun h39 => ?_) (fun h39 => absurd h39 (by omega))
        refine j_iinc hx 3 [(5, .int (zI 1)), (6, .int (zI 1)), (4, .int (zI 0)), (3, .int (zI 1)), (0, .ref a), (1, .int (zI x1)), (2, .int (zI x2))] dX12_rests_121 rfl (by omega) (by decide) rfl ?_
        refine j_goto hx 48 dX12_rests_124 rfl ?_
        refine j_iload hx 0 dX12_rests_48 rfl ?_
        refine j_aload_n hx 4 dX12_rests_50 rfl ?_
        refine g13_26 hx hG ha kf_RX12_195 rfl dX12_rests_51 ?_
        refine j_icmp_gt hx 127 dX12_rests_54 rfl ⟨by decide, by decide⟩ (by omega) (fun h40 => ?_) (fun h40 => absurd h40 (by omega))
        refine j_iload_n hx 6 dX12_rests_127 rfl ?_
        refine j_if_ne hx 135 dX12_rests_128 rfl (by omega) (fun h41 => ?_) (fun h41 => ?_)
        · skip
          refine j_iload hx 2 dX12_rests_135 rfl ?_
          have f42 := zf hS_s3 ha (k := 0) rfl
          exact j_iret hx hq rfl (by decide) (by decide) dX12_rests_137 ⟨0, rfl, rfl, hS_s3, (zFr_t (zFr_u zFr_rf e_s1 ha (by decide)) hF_s3 (by decide)), ⟨(by omega), by omega⟩⟩
        · skip
          refine j_iload_n hx 3 dX12_rests_131 rfl ?_
          refine j_goto hx 137 dX12_rests_132 rfl ?_
          have f43 := zf hS_s3 ha (k := 0) rfl
          exact j_iret hx hq rfl (by decide) (by decide) dX12_rests_137 ⟨1, rfl, rfl, hS_s3, (zFr_t (zFr_u zFr_rf e_s1 ha (by decide)) hF_s3 (by decide)), ⟨(by omega), by omega⟩⟩
      · skip
        refine j_iconst hx dX12_rests_38 ?_
        have f44 := zf hS_s3 ha (k := 0) rfl
        exact j_iret hx hq rfl (by decide) (by decide) dX12_rests_39 ⟨0, rfl, rfl, hS_s3, (zFr_t (zFr_u zFr_rf e_s1 ha (by decide)) hF_s3 (by decide)), ⟨(by omega), by omega⟩⟩
    · skip
      refine j_iconst hx dX12_rests_25 ?_
      refine j_goto hx 30 dX12_rests_26 rfl ?_
      refine j_iconst hx dX12_rests_30 ?_
      refine j_iconst hx dX12_rests_31 ?_
      refine j_callV hx hG (c_X12_may hst a 1 1 1) lk_RX12_240 ha (by decide) rfl rfl rfl rfl [.int (zI 1), .int (zI 1), .int (zI 1)] ⟨rfl, hG, hS_s1, ha, (by omega), (by omega), (by omega)⟩ rfl rfl ⟨by decide, by decide⟩ ⟨by decide, by decide⟩ (k2 := 0) (n2 := 0) rfl rfl (Nat.le_of_ble_eq_true rfl) dX12_rests_32 (kIM (fun v45 s4 hS_s4 hF_s4 q46 => ?_))
      refine j_if_ne hx 40 dX12_rests_35 rfl (by omega) (fun h47 => ?_) (fun h47 => ?_)
      · skip
        refine j_iconst hx dX12_rests_40 ?_
        refine j_istore_n hx [(3, .int (zI 0)), (0, .ref a), (1, .int (zI x1)), (2, .int (zI x2))] dX12_rests_41 (by decide) rfl ?_
        refine j_iconst hx dX12_rests_42 ?_
        refine j_istore hx [(4, .int (zI (-1))), (3, .int (zI 0)), (0, .ref a), (1, .int (zI x1)), (2, .int (zI x2))] dX12_rests_43 (by decide) rfl ?_
        refine j_iconst hx dX12_rests_45 ?_
        refine j_istore hx [(5, .int (zI 0)), (4, .int (zI (-1))), (3, .int (zI 0)), (0, .ref a), (1, .int (zI x1)), (2, .int (zI x2))] dX12_rests_46 (by decide) rfl ?_
        refine j_iload hx 0 dX12_rests_48 rfl ?_
        refine j_aload_n hx 3 dX12_rests_50 rfl ?_
        have f48 := zf hS_s4 ha (k := 26) rfl
        refine g13_26 hx hG ha kf_RX12_195 rfl dX12_rests_51 ?_
        refine j_icmp_gt hx 127 dX12_rests_54 rfl ⟨by decide, by decide⟩ (by omega) (fun h49 => absurd h49 (by omega)) (fun h49 => ?_)
        refine j_iconst hx dX12_rests_57 ?_
        refine j_istore hx [(6, .int (zI 0)), (5, .int (zI 0)), (4, .int (zI (-1))), (3, .int (zI 0)), (0, .ref a), (1, .int (zI x1)), (2, .int (zI x2))] dX12_rests_58 (by decide) rfl ?_
        refine j_iload hx 0 dX12_rests_60 rfl ?_
        refine j_aload_n hx 4 dX12_rests_62 rfl ?_
        refine g13_26 hx hG ha kf_RX12_195 rfl dX12_rests_63 ?_
        refine j_icmp_gt hx 121 dX12_rests_66 rfl ⟨by decide, by decide⟩ (by omega) (fun h50 => absurd h50 (by omega)) (fun h50 => ?_)
        refine j_aload_n hx 4 dX12_rests_69 rfl ?_
        refine j_iload hx 1 dX12_rests_70 rfl ?_
        refine j_iload hx 0 dX12_rests_72 rfl ?_
        refine j_iload_n hx 5 dX12_rests_74 rfl ?_
        refine j_callV hx hG (c_X12_isBest hst a 0 0 x1) lk_RX12_472 ha (by decide) rfl rfl rfl rfl [.int (zI 0), .int (zI 0), .int (zI x1)] ⟨rfl, hG, hS_s4, ha, (by omega), (by omega), (by omega)⟩ rfl rfl ⟨by decide, by decide⟩ ⟨by decide, by decide⟩ (k2 := 0) (n2 := 0) rfl rfl (Nat.le_of_ble_eq_true rfl) dX12_rests_75 (kIP (fun v51 q52 => ?_))
        refine j_if_eq hx 115 dX12_rests_78 rfl (by omega) (fun h53 => absurd h53 (by omega)) (fun h53 => ?_)
        refine j_aload_n hx 4 dX12_rests_81 rfl ?_
        refine j_iload hx 0 dX12_rests_82 rfl ?_
        refine j_iload hx 1 dX12_rests_84 rfl ?_
        refine j_iload_n hx 5 dX12_rests_86 rfl ?_
        refine j_callV hx hG (c_X12_isBest hst a 0 0 x1) lk_RX12_472 ha (by decide) rfl rfl rfl rfl [.int (zI 0), .int (zI 0), .int (zI x1)] ⟨rfl, hG, hS_s4, ha, (by omega), (by omega), (by omega)⟩ rfl rfl ⟨by decide, by decide⟩ ⟨by decide, by decide⟩ (k2 := 0) (n2 := 0) rfl rfl (Nat.le_of_ble_eq_true rfl) dX12_rests_87 (kIP (fun v54 q55 => ?_))
        refine j_if_ne hx 96 dX12_rests_90 rfl (by omega) (fun h56 => ?_) (fun h56 => absurd h56 (by omega))
        refine j_iinc hx 3 [(3, .int (zI 1)), (6, .int (zI 0)), (5, .int (zI 0)), (4, .int (zI (-1))), (0, .ref a), (1, .int (zI x1)), (2, .int (zI x2))] dX12_rests_96 rfl (by omega) (by decide) rfl ?_
        refine j_iload hx 3 dX12_rests_99 rfl ?_
        refine j_iconst hx dX12_rests_101 ?_
        refine j_icmp_ne hx 115 dX12_rests_102 rfl ⟨by decide, by decide⟩ ⟨by decide, by decide⟩ (fun h57 => absurd h57 (by omega)) (fun h57 => ?_)
        refine j_bipush hx dX12_rests_105 rfl ?_
        refine j_iload hx 2 dX12_rests_107 rfl ?_
        refine j_imul hx (r := 0) dX12_rests_109 (by omega) ?_
        refine j_iload hx 1 dX12_rests_110 rfl ?_
        refine j_iadd hx (r := 0) dX12_rests_112 (by omega) ?_
        refine j_istore hx [(4, .int (zI 0)), (3, .int (zI 1)), (6, .int (zI 0)), (5, .int (zI 0)), (0, .ref a), (1, .int (zI x1)), (2, .int (zI x2))] dX12_rests_113 (by decide) rfl ?_
        refine j_iinc hx 2 [(6, .int (zI 1)), (4, .int (zI 0)), (3, .int (zI 1)), (5, .int (zI 0)), (0, .ref a), (1, .int (zI x1)), (2, .int (zI x2))] dX12_rests_115 rfl (by omega) (by decide) rfl ?_
        refine j_goto hx 60 dX12_rests_118 rfl ?_
        refine j_iload hx 0 dX12_rests_60 rfl ?_
        refine j_aload_n hx 4 dX12_rests_62 rfl ?_
        refine g13_26 hx hG ha kf_RX12_195 rfl dX12_rests_63 ?_
        refine j_icmp_gt hx 121 dX12_rests_66 rfl ⟨by decide, by decide⟩ (by omega) (fun h58 => ?_) (fun h58 => absurd h58 (by omega))
        refine j_iinc hx 3 [(5, .int (zI 1)), (6, .int (zI 1)), (4, .int (zI 0)), (3, .int (zI 1)), (0, .ref a), (1, .int (zI x1)), (2, .int (zI x2))] dX12_rests_121 rfl (by omega) (by decide) rfl ?_
        refine j_goto hx 48 dX12_rests_124 rfl ?_
        refine j_iload hx 0 dX12_rests_48 rfl ?_
        refine j_aload_n hx 4 dX12_rests_50 rfl ?_
        refine g13_26 hx hG ha kf_RX12_195 rfl dX12_rests_51 ?_
        refine j_icmp_gt hx 127 dX12_rests_54 rfl ⟨by decide, by decide⟩ (by omega) (fun h59 => ?_) (fun h59 => absurd h59 (by omega))
        refine j_iload_n hx 6 dX12_rests_127 rfl ?_
        refine j_if_ne hx 135 dX12_rests_128 rfl (by omega) (fun h60 => ?_) (fun h60 => ?_)
        · skip
          refine j_iload hx 2 dX12_rests_135 rfl ?_
          have f61 := zf hS_s4 ha (k := 0) rfl
          exact j_iret hx hq rfl (by decide) (by decide) dX12_rests_137 ⟨0, rfl, rfl, hS_s4, (zFr_t (zFr_u zFr_rf e_s1 ha (by decide)) hF_s4 (by decide)), ⟨(by omega), by omega⟩⟩
        · skip
          refine j_iload_n hx 3 dX12_rests_131 rfl ?_
          refine j_goto hx 137 dX12_rests_132 rfl ?_
          have f62 := zf hS_s4 ha (k := 0) rfl
          exact j_iret hx hq rfl (by decide) (by decide) dX12_rests_137 ⟨1, rfl, rfl, hS_s4, (zFr_t (zFr_u zFr_rf e_s1 ha (by decide)) hF_s4 (by decide)), ⟨(by omega), by omega⟩⟩
      · skip
        refine j_iconst hx dX12_rests_38 ?_
        have f63 := zf hS_s4 ha (k := 0) rfl
        exact j_iret hx hq rfl (by decide) (by decide) dX12_rests_39 ⟨0, rfl, rfl, hS_s4, (zFr_t (zFr_u zFr_rf e_s1 ha (by decide)) hF_s4 (by decide)), ⟨(by omega), by omega⟩⟩

set_option maxHeartbeats 4000000 in
set_option maxRecDepth 20000 in
theorem c_X12_remember {E : zE} {l : Launch} (hst : l.stackTraces = false) (a : Nat) (x1 : Int) (x2 : Int) (x3 : Int) : Con E l yX12_remember cX12_remember 8 (some .int) { frames := 2, cells := 0, slots := 0, locals := 45 } (fun G s vs => vs = [.ref a, .int (zI x1), .int (zI x2), .int (zI x3)] ∧ zGK G ∧ zSK G s ∧ (gT G a = 13) ∧ ((-2147483648) ≤ x1 ∧ x1 ≤ 2147483647) ∧ ((-2147483648) ≤ x2 ∧ x2 ≤ 2147483647) ∧ ((-2147483648) ≤ x3 ∧ x3 ≤ 2147483647) ∧ (zS0m G s)) (fun G s _ => pI (fun r G2 s2 => G2 = G ∧ zSK G s2 ∧ zFr [13, 71] G s s2 ∧ ((-2147483648) ≤ r ∧ r ≤ 2147483647) ∧ s2 a 0 = 1)) := by
  refine Con.mk hst (by decide) (fun G s vs h => by rw [h.1]; exact Nat.le_of_ble_eq_true rfl) ?_
  rintro X G s0 vs ⟨rfl, hG, hS0, ha, hx1, hx2, hx3, hF0⟩ rfl hx hq
  show JJ X E 8 G s0 0 0 [(0, .ref a), (1, .int (zI x1)), (2, .int (zI x2)), (3, .int (zI x3))] 0 []
  refine j_aload_n hx 0 dX12_remember_0 rfl ?_
  refine j_iconst hx dX12_remember_1 ?_
  refine p13_0 hx hG ha kf_RX12_3 dX12_remember_2 ?_
  obtain ⟨s1, e_s1⟩ : ∃ z, z = zU s0 a 0 0 := ⟨_, rfl⟩
  rw [← e_s1]
  have hS_s1 : zSK G s1 := by rw [e_s1]; exact zSK_F hS0 ha rfl rfl rfl (by omega)
  refine j_aload_n hx 0 dX12_remember_5 rfl ?_
  refine j_iload_n hx 1 dX12_remember_6 rfl ?_
  refine j_iconst hx dX12_remember_7 ?_
  have g1 : s1 a 0 = 0 := (by rw [e_s1, zU_eq])
  refine j_callV hx hG (c_X12_isPlayer hst a x1 1) lk_RX12_339 ha (by decide) rfl rfl rfl rfl [.int (zI x1), .int (zI 1)] ⟨rfl, hG, hS_s1, ha, (by omega), (by omega), (((by rw [e_s1, zU_eq]) : s1 a 0 = 0).trans (by omega))⟩ rfl rfl ⟨by decide, by decide⟩ ⟨by decide, by decide⟩ (k2 := 0) (n2 := 0) rfl rfl (Nat.le_of_ble_eq_true rfl) dX12_remember_8 (kIM (fun v2 s2 hS_s2 hF_s2 q3 => ?_))
  refine j_if_eq hx 46 dX12_remember_11 rfl (by omega) (fun h4 => ?_) (fun h4 => absurd h4 (by omega))
  refine j_iconst hx dX12_remember_46 ?_
  exact j_iret hx hq rfl (by decide) (by decide) dX12_remember_47 ⟨0, rfl, rfl, hS_s2, (zFr_t (zFr_u zFr_rf e_s1 ha (by decide)) hF_s2 (by decide)), ⟨(by omega), by omega⟩⟩

set_option maxHeartbeats 4000000 in
set_option maxRecDepth 20000 in
theorem c_X12_odds {E : zE} {l : Launch} (hst : l.stackTraces = false) (a : Nat) (x1 : Int) (x2 : Int) (x3 : Int) : Con E l yX12_odds cX12_odds 9 (some .long) { frames := 2, cells := 0, slots := 0, locals := 45 } (fun G s vs => vs = [.ref a, .int (zI x1), .int (zI x2), .int (zI x3)] ∧ zGK G ∧ zSK G s ∧ (gT G a = 13) ∧ ((-2147483648) ≤ x1 ∧ x1 ≤ 2147483647) ∧ ((-2147483648) ≤ x2 ∧ x2 ≤ 2147483647) ∧ ((-2147483648) ≤ x3 ∧ x3 ≤ 2147483647) ∧ (zS0m G s)) (fun G s _ => pL (fun r G2 s2 => G2 = G ∧ zSK G s2 ∧ zFr [13, 71] G s s2 ∧ ((-9223372036854775808) ≤ r ∧ r ≤ 9223372036854775807) ∧ s2 a 0 = 1)) := by
  refine Con.mk hst (by decide) (fun G s vs h => by rw [h.1]; exact Nat.le_of_ble_eq_true rfl) ?_
  rintro X G s0 vs ⟨rfl, hG, hS0, ha, hx1, hx2, hx3, hF0⟩ rfl hx hq
  show JJ X E 9 G s0 0 0 [(0, .ref a), (1, .int (zI x1)), (2, .int (zI x2)), (3, .int (zI x3))] 0 []
  refine j_aload_n hx 0 dX12_odds_0 rfl ?_
  refine j_iconst hx dX12_odds_1 ?_
  refine p13_0 hx hG ha kf_RX12_3 dX12_odds_2 ?_
  obtain ⟨s1, e_s1⟩ : ∃ z, z = zU s0 a 0 0 := ⟨_, rfl⟩
  rw [← e_s1]
  have hS_s1 : zSK G s1 := by rw [e_s1]; exact zSK_F hS0 ha rfl rfl rfl (by omega)
  refine j_aload_n hx 0 dX12_odds_5 rfl ?_
  refine j_iload_n hx 1 dX12_odds_6 rfl ?_
  refine j_iconst hx dX12_odds_7 ?_
  have g1 : s1 a 0 = 0 := (by rw [e_s1, zU_eq])
  refine j_callV hx hG (c_X12_isPlayer hst a x1 1) lk_RX12_339 ha (by decide) rfl rfl rfl rfl [.int (zI x1), .int (zI 1)] ⟨rfl, hG, hS_s1, ha, (by omega), (by omega), (((by rw [e_s1, zU_eq]) : s1 a 0 = 0).trans (by omega))⟩ rfl rfl ⟨by decide, by decide⟩ ⟨by decide, by decide⟩ (k2 := 0) (n2 := 0) rfl rfl (Nat.le_of_ble_eq_true rfl) dX12_odds_8 (kIM (fun v2 s2 hS_s2 hF_s2 q3 => ?_))
  refine j_if_eq hx 47 dX12_odds_11 rfl (by omega) (fun h4 => ?_) (fun h4 => absurd h4 (by omega))
  refine j_lconst hx dX12_odds_47 ?_
  show JJ X E 9 G s2 0 0 [(0, .ref a), (1, .int (zI x1)), (2, .int (zI x2)), (3, .int (zI x3))] 48 [.long (zL 0)]
  exact j_lret hx hq rfl (by decide) (by decide) dX12_odds_48 ⟨0, rfl, rfl, hS_s2, (zFr_t (zFr_u zFr_rf e_s1 ha (by decide)) hF_s2 (by decide)), ⟨(by omega), by omega⟩⟩

set_option maxHeartbeats 4000000 in
set_option maxRecDepth 20000 in
theorem c_X12_shuffles {E : zE} {l : Launch} (hst : l.stackTraces = false) (a : Nat) (x1 : Int) : Con E l yX12_shuffles cX12_shuffles 8 none { frames := 0, cells := 0, slots := 0, locals := 0 } (fun G s vs => vs = [.ref a, .int (zI x1)] ∧ zGK G ∧ zSK G s ∧ (gT G a = 13) ∧ ((-2147483648) ≤ x1 ∧ x1 ≤ 2147483647)) (fun G s _ => pV (fun G2 s2 => G2 = G ∧ s2 = s ∧ True)) := by
  refine Con.mk hst (by decide) (fun G s vs h => by rw [h.1]; exact Nat.le_of_ble_eq_true rfl) ?_
  rintro X G s0 vs ⟨rfl, hG, hS0, ha, hx1⟩ rfl hx hq
  show JJ X E 8 G s0 0 0 [(0, .ref a), (1, .int (zI x1))] 0 []
  refine j_iload_n hx 1 dX12_shuffles_0 rfl ?_
  refine j_istore_n hx [(2, .int (zI x1)), (0, .ref a), (1, .int (zI x1))] dX12_shuffles_1 (by decide) rfl ?_
  refine j_iconst hx dX12_shuffles_2 ?_
  refine j_istore_n hx [(3, .int (zI 0)), (2, .int (zI x1)), (0, .ref a), (1, .int (zI x1))] dX12_shuffles_3 (by decide) rfl ?_
  refine j_iload_n hx 0 dX12_shuffles_4 rfl ?_
  refine j_aload_n hx 2 dX12_shuffles_5 rfl ?_
  have f1 := zf hS0 ha (k := 24) rfl
  refine g13_24 hx hG ha kf_RX12_189 rfl dX12_shuffles_6 ?_
  refine j_icmp_ge hx 118 dX12_shuffles_9 rfl ⟨by decide, by decide⟩ (by omega) (fun h2 => ?_) (fun h2 => absurd h2 (by omega))
  exact j_vret hx hq rfl (by decide) (by decide) dX12_shuffles_118 ⟨rfl, rfl, rfl, trivial⟩

theorem lk_RX12_495 : LkV RX12 495 RX12 yX12_shuffles cX12_shuffles 8 none 1 := ⟨km_RX12_495, ki_yX12_shuffles, ks_RX12_yX12_shuffles, kn_RX12, kc_yX12_shuffles, rfl, by decide +kernel, by decide +kernel, by decide +kernel⟩
set_option maxHeartbeats 4000000 in
set_option maxRecDepth 20000 in
theorem c_X12_shuffle {E : zE} {l : Launch} (hst : l.stackTraces = false) (a : Nat) (x1 : Int) : Con E l yX12_shuffle cX12_shuffle 2 none { frames := 1, cells := 0, slots := 0, locals := 27 } (fun G s vs => vs = [.ref a, .int (zI x1)] ∧ zGK G ∧ zSK G s ∧ (gT G a = 13) ∧ ((-2147483648) ≤ x1 ∧ x1 ≤ 2147483647) ∧ (zS0m G s)) (fun G s _ => pV (fun G2 s2 => G2 = G ∧ zSK G s2 ∧ zFr [13, 85] G s s2 ∧ s2 a 0 = 0)) := by
  refine Con.mk hst (by decide) (fun G s vs h => by rw [h.1]; exact Nat.le_of_ble_eq_true rfl) ?_
  rintro X G s0 vs ⟨rfl, hG, hS0, ha, hx1, hF0⟩ rfl hx hq
  show JJ X E 2 G s0 0 0 [(0, .ref a), (1, .int (zI x1))] 0 []
  refine j_aload_n hx 0 dX12_shuffle_0 rfl ?_
  refine j_iconst hx dX12_shuffle_1 ?_
  refine p13_0 hx hG ha kf_RX12_3 dX12_shuffle_2 ?_
  obtain ⟨s1, e_s1⟩ : ∃ z, z = zU s0 a 0 0 := ⟨_, rfl⟩
  rw [← e_s1]
  have hS_s1 : zSK G s1 := by rw [e_s1]; exact zSK_F hS0 ha rfl rfl rfl (by omega)
  refine j_aload_n hx 0 dX12_shuffle_5 rfl ?_
  refine j_iload_n hx 1 dX12_shuffle_6 rfl ?_
  refine j_callV hx hG (c_X12_shuffles hst a x1) lk_RX12_495 ha (by decide) rfl rfl rfl rfl [.int (zI x1)] ⟨rfl, hG, hS_s1, ha, (by omega)⟩ rfl rfl ⟨by decide, by decide⟩ ⟨by decide, by decide⟩ (k2 := 0) (n2 := 0) rfl rfl (Nat.le_of_ble_eq_true rfl) dX12_shuffle_7 (kVP (fun q2 => ?_))
  refine j_aload_n hx 0 dX12_shuffle_10 rfl ?_
  refine j_callV hx hG (c_X12_stays hst a) lk_RX12_207 ha (by decide) rfl rfl rfl rfl [] ⟨rfl, hG, hS_s1, ha⟩ rfl rfl ⟨by decide, by decide⟩ ⟨by decide, by decide⟩ (k2 := 0) (n2 := 0) rfl rfl (Nat.le_of_ble_eq_true rfl) dX12_shuffle_11 (kVM (fun s2 hS_s2 hF_s2 q4 => ?_))
  have g5 : s2 a 0 = 0 := (by rw [(zFr_g hF_s2 ha (by decide)), e_s1, zU_eq])
  exact j_vret hx hq rfl (by decide) (by decide) dX12_shuffle_14 ⟨rfl, rfl, hS_s2, (zFr_t (zFr_u zFr_rf e_s1 ha (by decide)) hF_s2 (by decide)), by omega⟩

set_option maxHeartbeats 4000000 in
set_option maxRecDepth 20000 in
theorem c_X12_lot {E : zE} {l : Launch} (hst : l.stackTraces = false) (a : Nat) (x1 : Int) (x2 : Int) (x3 : Int) : Con E l yX12_lot cX12_lot 5 (some .int) { frames := 4, cells := 0, slots := 0, locals := 87 } (fun G s vs => vs = [.ref a, .int (zI x1), .int (zI x2), .int (zI x3)] ∧ zGK G ∧ zSK G s ∧ (gT G a = 13) ∧ ((-2147483648) ≤ x1 ∧ x1 ≤ 2147483647) ∧ ((-2147483648) ≤ x2 ∧ x2 ≤ 2147483647) ∧ ((-2147483648) ≤ x3 ∧ x3 ≤ 2147483647) ∧ (zS0m G s)) (fun G s _ => pI (fun r G2 s2 => G2 = G ∧ zSK G s2 ∧ zFr [13, 71, 84, 87, 99, 100, 101, 102, 103, 105] G s s2 ∧ (0 ≤ r ∧ r ≤ 0) ∧ (((1 ≤ x2 ∧ x2 ≤ 20 ∧ 0 ≤ x3 ∧ x3 ≤ 5) → s2 a 0 = 0) ∧ (¬ (1 ≤ x2 ∧ x2 ≤ 20 ∧ 0 ≤ x3 ∧ x3 ≤ 5) → s2 a 0 = 1)))) := by
  refine Con.mk hst (by decide) (fun G s vs h => by rw [h.1]; exact Nat.le_of_ble_eq_true rfl) ?_
  rintro X G s0 vs ⟨rfl, hG, hS0, ha, hx1, hx2, hx3, hF0⟩ rfl hx hq
  show JJ X E 5 G s0 0 0 [(0, .ref a), (1, .int (zI x1)), (2, .int (zI x2)), (3, .int (zI x3))] 0 []
  refine j_aload_n hx 0 dX12_lot_0 rfl ?_
  refine j_iconst hx dX12_lot_1 ?_
  refine p13_0 hx hG ha kf_RX12_3 dX12_lot_2 ?_
  obtain ⟨s1, e_s1⟩ : ∃ z, z = zU s0 a 0 0 := ⟨_, rfl⟩
  rw [← e_s1]
  have hS_s1 : zSK G s1 := by rw [e_s1]; exact zSK_F hS0 ha rfl rfl rfl (by omega)
  refine j_aload_n hx 0 dX12_lot_5 rfl ?_
  refine j_iload_n hx 2 dX12_lot_6 rfl ?_
  refine j_iconst hx dX12_lot_7 ?_
  refine j_bipush hx dX12_lot_8 rfl ?_
  refine j_callS hx (c_X12_within hst x2 1 20) lk_RX12_314 [.int (zI x2), .int (zI 1), .int (zI 20)] ⟨rfl, hG, hS_s1, (by omega), (by omega), (by omega)⟩ rfl rfl ⟨by decide, by decide⟩ ⟨by decide, by decide⟩ (k2 := 0) (n2 := 0) rfl rfl (Nat.le_of_ble_eq_true rfl) dX12_lot_10 (kIP (fun v1 q2 => ?_))
  refine j_if_eq hx 29 dX12_lot_13 rfl (by omega) (fun h3 => ?_) (fun h3 => ?_)
  · skip
    refine j_iconst hx dX12_lot_29 ?_
    refine j_iconst hx dX12_lot_30 ?_
    refine j_iconst hx dX12_lot_31 ?_
    refine j_callV hx hG (c_X12_may hst a 0 1 1) lk_RX12_240 ha (by decide) rfl rfl rfl rfl [.int (zI 0), .int (zI 1), .int (zI 1)] ⟨rfl, hG, hS_s1, ha, (by omega), (by omega), (by omega)⟩ rfl rfl ⟨by decide, by decide⟩ ⟨by decide, by decide⟩ (k2 := 0) (n2 := 0) rfl rfl (Nat.le_of_ble_eq_true rfl) dX12_lot_32 (kIM (fun v4 s2 hS_s2 hF_s2 q5 => ?_))
    refine j_if_ne hx 40 dX12_lot_35 rfl (by omega) (fun h6 => ?_) (fun h6 => ?_)
    · skip
      refine j_iconst hx dX12_lot_40 ?_
      refine j_istore hx [(4, .int (zI 0)), (0, .ref a), (1, .int (zI x1)), (2, .int (zI x2)), (3, .int (zI x3))] dX12_lot_41 (by decide) rfl ?_
      have c43_3 : ∀ (m_c43_3 : Nat) (v7 : Int) (s4 : zS), 2147483648 - v7 < m_c43_3 → (0 ≤ v7 ∧ v7 ≤ 6) → (zSK G s4) → (zFr [105] G s2 s4) → JJ X E 5 G s4 0 0 [(0, .ref a), (1, .int (zI x1)), (2, .int (zI x2)), (3, .int (zI x3)), (4, .int (zI v7))] 43 [] := by
        intro m_c43_3
        induction m_c43_3 with
        | zero => intro v7 s4 hm_c43_3 f5 hS_s4 hF_s4; exfalso; omega
        | succ m_c43_3 ih_c43_3 => 
          intro v7 s4 hm_c43_3 f5 hS_s4 hF_s4
          refine j_iload hx 4 dX12_lot_43 rfl ?_
          refine j_bipush hx dX12_lot_45 rfl ?_
          refine j_icmp_ge hx 64 dX12_lot_47 rfl (by omega) ⟨by decide, by decide⟩ (fun h8 => ?_) (fun h8 => ?_)
          · skip
            refine j_aload_n hx 0 dX12_lot_64 rfl ?_
            refine j_callV hx hG (c_X12_keeps hst a) lk_RX12_444 ha (by decide) rfl rfl rfl rfl [] ⟨rfl, hG, hS_s4, ha⟩ rfl rfl ⟨by decide, by decide⟩ ⟨by decide, by decide⟩ (k2 := 0) (n2 := 0) rfl rfl (Nat.le_of_ble_eq_true rfl) dX12_lot_65 (kVM (fun s8 hS_s8 hF_s8 q10 => ?_))
            refine j_iconst hx dX12_lot_68 ?_
            refine j_istore hx [(4, .int (zI 0)), (0, .ref a), (1, .int (zI x1)), (2, .int (zI x2)), (3, .int (zI x3))] dX12_lot_69 (by decide) rfl ?_
            have g12 : s8 a 0 = s2 a 0 := (by rw [(zFr_g hF_s8 ha (by decide)), (zFr_g hF_s4 ha (by decide))])
            have f13 := zf hS_s2 ha (k := 0) rfl
            have c71_9 : ∀ (m_c71_9 : Nat) (v11 : Int) (s10 : zS), 2147483648 - v11 < m_c71_9 → (0 ≤ v11 ∧ v11 ≤ 2147483647) → (zSK G s10) → (zFr [13, 84, 87, 101, 102, 103, 105] G s8 s10) → (s10 a 0 = s8 a 0) → JJ X E 5 G s10 0 0 [(0, .ref a), (1, .int (zI x1)), (2, .int (zI x2)), (3, .int (zI x3)), (4, .int (zI v11))] 71 [] := by
              intro m_c71_9
              induction m_c71_9 with
              | zero => intro v11 s10 hm_c71_9 f11 hS_s10 hF_s10 f14; exfalso; omega
              | succ m_c71_9 ih_c71_9 => 
                intro v11 s10 hm_c71_9 f11 hS_s10 hF_s10 f14
                refine j_iload hx 4 dX12_lot_71 rfl ?_
                refine j_iload_n hx 2 dX12_lot_73 rfl ?_
                refine j_icmp_ge hx 213 dX12_lot_74 rfl (by omega) (by omega) (fun h14 => ?_) (fun h14 => ?_)
                · skip
                  refine j_aload_n hx 0 dX12_lot_213 rfl ?_
                  refine g13_56 hx hG ha kf_RX12_121 dX12_lot_214 ?_
                  refine j_iload_n hx 3 dX12_lot_217 rfl ?_
                  have f15 := zaI (j := (x3).toNat) hS_s10 (zr (k := 56) (t2 := 105) hG ha rfl) rfl (zlen hG (zr (k := 56) (t2 := 105) hG ha rfl) (n := 6) rfl rfl) (show 0 ≤ x3 by omega) (by omega) rfl
                  refine j_iald hx hG (zr (k := 56) (t2 := 105) hG ha rfl) (by decide) rfl (zlen hG (zr (k := 56) (t2 := 105) hG ha rfl) (n := 6) rfl rfl) (by omega) (by omega) (j := (x3).toNat) rfl rfl dX12_lot_218 ?_
                  have f16 := zf hS_s10 ha (k := 0) rfl
                  exact j_iret hx hq rfl (by decide) (by decide) dX12_lot_219 ⟨(s10 (gP G a 56) (x3).toNat), rfl, rfl, hS_s10, (zFr_t (zFr_t (zFr_t (zFr_t (zFr_u zFr_rf e_s1 ha (by decide)) hF_s2 (by decide)) hF_s4 (by decide)) hF_s8 (by decide)) hF_s10 (by decide)), ⟨(by omega), by omega⟩⟩
                · skip
                  refine j_aload_n hx 0 dX12_lot_77 rfl ?_
                  refine j_iload_n hx 1 dX12_lot_78 rfl ?_
                  refine j_iload hx 4 dX12_lot_79 rfl ?_
                  refine j_iadd hx (r := x1 + v11) dX12_lot_81 rfl ?_
                  refine j_norm (fun v17 f18 f19 f20 => ?_)
                  refine j_callV hx hG (c_X12_shuffles hst a v17) lk_RX12_495 ha (by decide) rfl rfl rfl rfl [.int (zI v17)] ⟨rfl, hG, hS_s10, ha, (by omega)⟩ rfl rfl ⟨by decide, by decide⟩ ⟨by decide, by decide⟩ (k2 := 0) (n2 := 0) rfl rfl (Nat.le_of_ble_eq_true rfl) dX12_lot_82 (kVP (fun q22 => ?_))
                  refine j_aload_n hx 0 dX12_lot_85 rfl ?_
                  refine j_callV hx hG (c_X12_findEnds hst a) lk_RX12_447 ha (by decide) rfl rfl rfl rfl [] ⟨rfl, hG, hS_s10, ha⟩ rfl rfl ⟨by decide, by decide⟩ ⟨by decide, by decide⟩ (k2 := 0) (n2 := 0) rfl rfl (Nat.le_of_ble_eq_true rfl) dX12_lot_86 (kVM (fun s15 hS_s15 hF_s15 q24 => ?_))
                  refine j_aload_n hx 0 dX12_lot_89 rfl ?_
                  refine j_callV hx hG (c_X12_back hst a) lk_RX12_450 ha (by decide) rfl rfl rfl rfl [] ⟨rfl, hG, hS_s15, ha⟩ rfl rfl ⟨by decide, by decide⟩ ⟨by decide, by decide⟩ (k2 := 0) (n2 := 0) rfl rfl (Nat.le_of_ble_eq_true rfl) dX12_lot_90 (kVM (fun s16 hS_s16 hF_s16 q26 => ?_))
                  refine j_aload_n hx 0 dX12_lot_93 rfl ?_
                  refine g13_56 hx hG ha kf_RX12_121 dX12_lot_94 ?_
                  refine j_iconst hx dX12_lot_97 ?_
                  refine j_iload hx 4 dX12_lot_98 rfl ?_
                  refine j_if_eq hx 116 dX12_lot_100 rfl (by omega) (fun h27 => ?_) (fun h27 => ?_)
                  · skip
                    refine j_aload_n hx 0 dX12_lot_116 rfl ?_
                    refine g13_52 hx hG ha kf_RX12_429 (v := (s15 a 52)) (by rw [(zFr_g hF_s16 ha (by decide))]) dX12_lot_117 ?_
                    refine j_goto hx 129 dX12_lot_120 rfl ?_
                    refine j_iast hx hG (zr (k := 56) (t2 := 105) hG ha rfl) (by decide) rfl (zlen hG (zr (k := 56) (t2 := 105) hG ha rfl) (n := 6) rfl rfl) (by omega) (by omega) (j := 0) rfl dX12_lot_129 ?_
                    obtain ⟨s17, e_s17⟩ : ∃ z, z = zU s16 (gP G a 56) 0 ((s15 a 52)) := ⟨_, rfl⟩
                    rw [← e_s17]
                    have hS_s17 : zSK G s17 := by rw [e_s17]; exact zSK_A hS_s16 (zr (k := 56) (t2 := 105) hG ha rfl) rfl rfl rfl (by omega)
                    refine j_aload_n hx 0 dX12_lot_130 rfl ?_
                    refine g13_56 hx hG ha kf_RX12_121 dX12_lot_131 ?_
                    refine j_iconst hx dX12_lot_134 ?_
                    refine j_aload_n hx 0 dX12_lot_135 rfl ?_
                    refine g13_52 hx hG ha kf_RX12_429 (v := (s15 a 52)) (by rw [e_s17, zU_at (Or.inl (zne (zr (k := 56) (t2 := 105) hG ha rfl) ha (by decide))), (zFr_g hF_s16 ha (by decide))]) dX12_lot_136 ?_
                    refine j_aload_n hx 0 dX12_lot_139 rfl ?_
                    refine g13_56 hx hG ha kf_RX12_121 dX12_lot_140 ?_
                    refine j_iconst hx dX12_lot_143 ?_
                    have f28 := zaI (j := 1) hS_s10 (zr (k := 56) (t2 := 105) hG ha rfl) rfl (zlen hG (zr (k := 56) (t2 := 105) hG ha rfl) (n := 6) rfl rfl) (show 0 ≤ 1 by omega) (by omega) rfl
                    refine j_iald hx hG (zr (k := 56) (t2 := 105) hG ha rfl) (by decide) rfl (zlen hG (zr (k := 56) (t2 := 105) hG ha rfl) (n := 6) rfl rfl) (by omega) (by omega) (j := 1) rfl (v := (s10 (gP G a 56) 1)) (by rw [e_s17, zU_at (Or.inr (by decide)), (zFr_g hF_s16 (zr (k := 56) (t2 := 105) hG ha rfl) (by decide)), (zFr_g hF_s15 (zr (k := 56) (t2 := 105) hG ha rfl) (by decide))]) dX12_lot_144 ?_
                    refine j_icmp_le hx 155 dX12_lot_145 rfl (by omega) (by omega) (fun h29 => ?_) (fun h29 => absurd h29 (by omega))
                    refine j_aload_n hx 0 dX12_lot_155 rfl ?_
                    refine g13_56 hx hG ha kf_RX12_121 dX12_lot_156 ?_
                    refine j_iconst hx dX12_lot_159 ?_
                    refine j_iald hx hG (zr (k := 56) (t2 := 105) hG ha rfl) (by decide) rfl (zlen hG (zr (k := 56) (t2 := 105) hG ha rfl) (n := 6) rfl rfl) (by omega) (by omega) (j := 1) rfl (v := (s10 (gP G a 56) 1)) (by rw [e_s17, zU_at (Or.inr (by decide)), (zFr_g hF_s16 (zr (k := 56) (t2 := 105) hG ha rfl) (by decide)), (zFr_g hF_s15 (zr (k := 56) (t2 := 105) hG ha rfl) (by decide))]) dX12_lot_160 ?_
                    refine j_iast hx hG (zr (k := 56) (t2 := 105) hG ha rfl) (by decide) rfl (zlen hG (zr (k := 56) (t2 := 105) hG ha rfl) (n := 6) rfl rfl) (by omega) (by omega) (j := 1) rfl dX12_lot_161 ?_
                    obtain ⟨s18, e_s18⟩ : ∃ z, z = zU s17 (gP G a 56) 1 ((s10 (gP G a 56) 1)) := ⟨_, rfl⟩
                    rw [← e_s18]
                    have hS_s18 : zSK G s18 := by rw [e_s18]; exact zSK_A hS_s17 (zr (k := 56) (t2 := 105) hG ha rfl) rfl rfl rfl (by omega)
                    refine j_aload_n hx 0 dX12_lot_162 rfl ?_
                    refine g13_54 hx hG ha kf_RX12_441 (v := (s15 a 54)) (by rw [e_s18, zU_at (Or.inl (zne (zr (k := 56) (t2 := 105) hG ha rfl) ha (by decide))), e_s17, zU_at (Or.inl (zne (zr (k := 56) (t2 := 105) hG ha rfl) ha (by decide))), (zFr_g hF_s16 ha (by decide))]) dX12_lot_163 ?_
                    refine j_iconst hx dX12_lot_166 ?_
                    refine j_icmp_eq hx 185 dX12_lot_167 rfl (by omega) ⟨by decide, by decide⟩ (fun h30 => ?_) (fun h30 => absurd h30 (by omega))
                    refine j_aload_n hx 0 dX12_lot_185 rfl ?_
                    refine g13_56 hx hG ha kf_RX12_121 dX12_lot_186 ?_
                    refine j_iconst hx dX12_lot_189 ?_
                    refine j_dup2 hx dX12_lot_190 rfl rfl ?_
                    have f31 := zaI (j := 5) hS_s10 (zr (k := 56) (t2 := 105) hG ha rfl) rfl (zlen hG (zr (k := 56) (t2 := 105) hG ha rfl) (n := 6) rfl rfl) (show 0 ≤ 5 by omega) (by omega) rfl
                    refine j_iald hx hG (zr (k := 56) (t2 := 105) hG ha rfl) (by decide) rfl (zlen hG (zr (k := 56) (t2 := 105) hG ha rfl) (n := 6) rfl rfl) (by omega) (by omega) (j := 5) rfl (v := (s10 (gP G a 56) 5)) (by rw [e_s18, zU_at (Or.inr (by decide)), e_s17, zU_at (Or.inr (by decide)), (zFr_g hF_s16 (zr (k := 56) (t2 := 105) hG ha rfl) (by decide)), (zFr_g hF_s15 (zr (k := 56) (t2 := 105) hG ha rfl) (by decide))]) dX12_lot_191 ?_
                    refine j_aload_n hx 0 dX12_lot_192 rfl ?_
                    refine g13_51 hx hG ha kf_RX12_432 (v := (s15 a 51)) (by rw [e_s18, zU_at (Or.inl (zne (zr (k := 56) (t2 := 105) hG ha rfl) ha (by decide))), e_s17, zU_at (Or.inl (zne (zr (k := 56) (t2 := 105) hG ha rfl) ha (by decide))), (zFr_g hF_s16 ha (by decide))]) dX12_lot_193 ?_
                    refine j_iconst hx dX12_lot_196 ?_
                    refine j_icmp_ne hx 204 dX12_lot_197 rfl (by omega) ⟨by decide, by decide⟩ (fun h32 => absurd h32 (by omega)) (fun h32 => ?_)
                    refine j_iconst hx dX12_lot_200 ?_
                    refine j_goto hx 205 dX12_lot_201 rfl ?_
                    refine j_iadd hx (r := (s10 (gP G a 56) 5)) dX12_lot_205 (by omega) ?_
                    refine j_iast hx hG (zr (k := 56) (t2 := 105) hG ha rfl) (by decide) rfl (zlen hG (zr (k := 56) (t2 := 105) hG ha rfl) (n := 6) rfl rfl) (by omega) (by omega) (j := 5) rfl dX12_lot_206 ?_
                    obtain ⟨s19, e_s19⟩ : ∃ z, z = zU s18 (gP G a 56) 5 ((s10 (gP G a 56) 5)) := ⟨_, rfl⟩
                    rw [← e_s19]
                    have hS_s19 : zSK G s19 := by rw [e_s19]; exact zSK_A hS_s18 (zr (k := 56) (t2 := 105) hG ha rfl) rfl rfl rfl (by omega)
                    refine j_iinc hx 4 [(4, .int (zI (v11 + 1))), (0, .ref a), (1, .int (zI x1)), (2, .int (zI x2)), (3, .int (zI x3))] dX12_lot_207 rfl (by omega) (by decide) rfl ?_
                    refine j_goto hx 71 dX12_lot_210 rfl ?_
                    have g33 : s19 a 0 = s15 a 0 := (by rw [e_s19, zU_at (Or.inl (zne (zr (k := 56) (t2 := 105) hG ha rfl) ha (by decide))), e_s18, zU_at (Or.inl (zne (zr (k := 56) (t2 := 105) hG ha rfl) ha (by decide))), e_s17, zU_at (Or.inl (zne (zr (k := 56) (t2 := 105) hG ha rfl) ha (by decide))), (zFr_g hF_s16 ha (by decide))])
                    have f34 := zf hS_s15 ha (k := 0) rfl
                    exact j_sub [1, 2, 3, 4, 0] [(0, .ref a), (1, .int (zI x1)), (2, .int (zI x2)), (3, .int (zI x3)), (4, .int (zI (v11 + 1)))] rfl (ih_c71_9 (v11 + 1) s19 (by omega) (by omega) hS_s19 (zFr_u (zFr_u (zFr_u (zFr_t (zFr_t (zFr_t zFr_rf hF_s10 (by decide)) hF_s15 (by decide)) hF_s16 (by decide)) e_s17 (zr (k := 56) (t2 := 105) hG ha rfl) (by decide)) e_s18 (zr (k := 56) (t2 := 105) hG ha rfl) (by decide)) e_s19 (zr (k := 56) (t2 := 105) hG ha rfl) (by decide)) (by omega))
                  · skip
                    refine j_aload_n hx 0 dX12_lot_103 rfl ?_
                    refine g13_52 hx hG ha kf_RX12_429 (v := (s15 a 52)) (by rw [(zFr_g hF_s16 ha (by decide))]) dX12_lot_104 ?_
                    refine j_aload_n hx 0 dX12_lot_107 rfl ?_
                    refine g13_56 hx hG ha kf_RX12_121 dX12_lot_108 ?_
                    refine j_iconst hx dX12_lot_111 ?_
                    have f35 := zaI (j := 0) hS_s10 (zr (k := 56) (t2 := 105) hG ha rfl) rfl (zlen hG (zr (k := 56) (t2 := 105) hG ha rfl) (n := 6) rfl rfl) (show 0 ≤ 0 by omega) (by omega) rfl
                    refine j_iald hx hG (zr (k := 56) (t2 := 105) hG ha rfl) (by decide) rfl (zlen hG (zr (k := 56) (t2 := 105) hG ha rfl) (n := 6) rfl rfl) (by omega) (by omega) (j := 0) rfl (v := (s10 (gP G a 56) 0)) (by rw [(zFr_g hF_s16 (zr (k := 56) (t2 := 105) hG ha rfl) (by decide)), (zFr_g hF_s15 (zr (k := 56) (t2 := 105) hG ha rfl) (by decide))]) dX12_lot_112 ?_
                    refine j_icmp_ge hx 123 dX12_lot_113 rfl (by omega) (by omega) (fun h36 => ?_) (fun h36 => absurd h36 (by omega))
                    refine j_aload_n hx 0 dX12_lot_123 rfl ?_
                    refine g13_56 hx hG ha kf_RX12_121 dX12_lot_124 ?_
                    refine j_iconst hx dX12_lot_127 ?_
                    refine j_iald hx hG (zr (k := 56) (t2 := 105) hG ha rfl) (by decide) rfl (zlen hG (zr (k := 56) (t2 := 105) hG ha rfl) (n := 6) rfl rfl) (by omega) (by omega) (j := 0) rfl (v := (s10 (gP G a 56) 0)) (by rw [(zFr_g hF_s16 (zr (k := 56) (t2 := 105) hG ha rfl) (by decide)), (zFr_g hF_s15 (zr (k := 56) (t2 := 105) hG ha rfl) (by decide))]) dX12_lot_128 ?_
                    refine j_iast hx hG (zr (k := 56) (t2 := 105) hG ha rfl) (by decide) rfl (zlen hG (zr (k := 56) (t2 := 105) hG ha rfl) (n := 6) rfl rfl) (by omega) (by omega) (j := 0) rfl dX12_lot_129 ?_
                    obtain ⟨s20, e_s20⟩ : ∃ z, z = zU s16 (gP G a 56) 0 ((s10 (gP G a 56) 0)) := ⟨_, rfl⟩
                    rw [← e_s20]
                    have hS_s20 : zSK G s20 := by rw [e_s20]; exact zSK_A hS_s16 (zr (k := 56) (t2 := 105) hG ha rfl) rfl rfl rfl (by omega)
                    refine j_aload_n hx 0 dX12_lot_130 rfl ?_
                    refine g13_56 hx hG ha kf_RX12_121 dX12_lot_131 ?_
                    refine j_iconst hx dX12_lot_134 ?_
                    refine j_aload_n hx 0 dX12_lot_135 rfl ?_
                    refine g13_52 hx hG ha kf_RX12_429 (v := (s15 a 52)) (by rw [e_s20, zU_at (Or.inl (zne (zr (k := 56) (t2 := 105) hG ha rfl) ha (by decide))), (zFr_g hF_s16 ha (by decide))]) dX12_lot_136 ?_
                    refine j_aload_n hx 0 dX12_lot_139 rfl ?_
                    refine g13_56 hx hG ha kf_RX12_121 dX12_lot_140 ?_
                    refine j_iconst hx dX12_lot_143 ?_
                    have f37 := zaI (j := 1) hS_s10 (zr (k := 56) (t2 := 105) hG ha rfl) rfl (zlen hG (zr (k := 56) (t2 := 105) hG ha rfl) (n := 6) rfl rfl) (show 0 ≤ 1 by omega) (by omega) rfl
                    refine j_iald hx hG (zr (k := 56) (t2 := 105) hG ha rfl) (by decide) rfl (zlen hG (zr (k := 56) (t2 := 105) hG ha rfl) (n := 6) rfl rfl) (by omega) (by omega) (j := 1) rfl (v := (s10 (gP G a 56) 1)) (by rw [e_s20, zU_at (Or.inr (by decide)), (zFr_g hF_s16 (zr (k := 56) (t2 := 105) hG ha rfl) (by decide)), (zFr_g hF_s15 (zr (k := 56) (t2 := 105) hG ha rfl) (by decide))]) dX12_lot_144 ?_
                    refine j_icmp_le hx 155 dX12_lot_145 rfl (by omega) (by omega) (fun h38 => ?_) (fun h38 => absurd h38 (by omega))
                    refine j_aload_n hx 0 dX12_lot_155 rfl ?_
                    refine g13_56 hx hG ha kf_RX12_121 dX12_lot_156 ?_
                    refine j_iconst hx dX12_lot_159 ?_
                    refine j_iald hx hG (zr (k := 56) (t2 := 105) hG ha rfl) (by decide) rfl (zlen hG (zr (k := 56) (t2 := 105) hG ha rfl) (n := 6) rfl rfl) (by omega) (by omega) (j := 1) rfl (v := (s10 (gP G a 56) 1)) (by rw [e_s20, zU_at (Or.inr (by decide)), (zFr_g hF_s16 (zr (k := 56) (t2 := 105) hG ha rfl) (by decide)), (zFr_g hF_s15 (zr (k := 56) (t2 := 105) hG ha rfl) (by decide))]) dX12_lot_160 ?_
                    refine j_iast hx hG (zr (k := 56) (t2 := 105) hG ha rfl) (by decide) rfl (zlen hG (zr (k := 56) (t2 := 105) hG ha rfl) (n := 6) rfl rfl) (by omega) (by omega) (j := 1) rfl dX12_lot_161 ?_
                    obtain ⟨s21, e_s21⟩ : ∃ z, z = zU s20 (gP G a 56) 1 ((s10 (gP G a 56) 1)) := ⟨_, rfl⟩
                    rw [← e_s21]
                    have hS_s21 : zSK G s21 := by rw [e_s21]; exact zSK_A hS_s20 (zr (k := 56) (t2 := 105) hG ha rfl) rfl rfl rfl (by omega)
                    refine j_aload_n hx 0 dX12_lot_162 rfl ?_
                    refine g13_54 hx hG ha kf_RX12_441 (v := (s15 a 54)) (by rw [e_s21, zU_at (Or.inl (zne (zr (k := 56) (t2 := 105) hG ha rfl) ha (by decide))), e_s20, zU_at (Or.inl (zne (zr (k := 56) (t2 := 105) hG ha rfl) ha (by decide))), (zFr_g hF_s16 ha (by decide))]) dX12_lot_163 ?_
                    refine j_iconst hx dX12_lot_166 ?_
                    refine j_icmp_eq hx 185 dX12_lot_167 rfl (by omega) ⟨by decide, by decide⟩ (fun h39 => ?_) (fun h39 => absurd h39 (by omega))
                    refine j_aload_n hx 0 dX12_lot_185 rfl ?_
                    refine g13_56 hx hG ha kf_RX12_121 dX12_lot_186 ?_
                    refine j_iconst hx dX12_lot_189 ?_
                    refine j_dup2 hx dX12_lot_190 rfl rfl ?_
                    have f40 := zaI (j := 5) hS_s10 (zr (k := 56) (t2 := 105) hG ha rfl) rfl (zlen hG (zr (k := 56) (t2 := 105) hG ha rfl) (n := 6) rfl rfl) (show 0 ≤ 5 by omega) (by omega) rfl
                    refine j_iald hx hG (zr (k := 56) (t2 := 105) hG ha rfl) (by decide) rfl (zlen hG (zr (k := 56) (t2 := 105) hG ha rfl) (n := 6) rfl rfl) (by omega) (by omega) (j := 5) rfl (v := (s10 (gP G a 56) 5)) (by rw [e_s21, zU_at (Or.inr (by decide)), e_s20, zU_at (Or.inr (by decide)), (zFr_g hF_s16 (zr (k := 56) (t2 := 105) hG ha rfl) (by decide)), (zFr_g hF_s15 (zr (k := 56) (t2 := 105) hG ha rfl) (by decide))]) dX12_lot_191 ?_
                    refine j_aload_n hx 0 dX12_lot_192 rfl ?_
                    refine g13_51 hx hG ha kf_RX12_432 (v := (s15 a 51)) (by rw [e_s21, zU_at (Or.inl (zne (zr (k := 56) (t2 := 105) hG ha rfl) ha (by decide))), e_s20, zU_at (Or.inl (zne (zr (k := 56) (t2 := 105) hG ha rfl) ha (by decide))), (zFr_g hF_s16 ha (by decide))]) dX12_lot_193 ?_
                    refine j_iconst hx dX12_lot_196 ?_
                    refine j_icmp_ne hx 204 dX12_lot_197 rfl (by omega) ⟨by decide, by decide⟩ (fun h41 => absurd h41 (by omega)) (fun h41 => ?_)
                    refine j_iconst hx dX12_lot_200 ?_
                    refine j_goto hx 205 dX12_lot_201 rfl ?_
                    refine j_iadd hx (r := (s10 (gP G a 56) 5)) dX12_lot_205 (by omega) ?_
                    refine j_iast hx hG (zr (k := 56) (t2 := 105) hG ha rfl) (by decide) rfl (zlen hG (zr (k := 56) (t2 := 105) hG ha rfl) (n := 6) rfl rfl) (by omega) (by omega) (j := 5) rfl dX12_lot_206 ?_
                    obtain ⟨s22, e_s22⟩ : ∃ z, z = zU s21 (gP G a 56) 5 ((s10 (gP G a 56) 5)) := ⟨_, rfl⟩
                    rw [← e_s22]
                    have hS_s22 : zSK G s22 := by rw [e_s22]; exact zSK_A hS_s21 (zr (k := 56) (t2 := 105) hG ha rfl) rfl rfl rfl (by omega)
                    refine j_iinc hx 4 [(4, .int (zI (v11 + 1))), (0, .ref a), (1, .int (zI x1)), (2, .int (zI x2)), (3, .int (zI x3))] dX12_lot_207 rfl (by omega) (by decide) rfl ?_
                    refine j_goto hx 71 dX12_lot_210 rfl ?_
                    have g42 : s22 a 0 = s15 a 0 := (by rw [e_s22, zU_at (Or.inl (zne (zr (k := 56) (t2 := 105) hG ha rfl) ha (by decide))), e_s21, zU_at (Or.inl (zne (zr (k := 56) (t2 := 105) hG ha rfl) ha (by decide))), e_s20, zU_at (Or.inl (zne (zr (k := 56) (t2 := 105) hG ha rfl) ha (by decide))), (zFr_g hF_s16 ha (by decide))])
                    have f43 := zf hS_s15 ha (k := 0) rfl
                    exact j_sub [1, 2, 3, 4, 0] [(0, .ref a), (1, .int (zI x1)), (2, .int (zI x2)), (3, .int (zI x3)), (4, .int (zI (v11 + 1)))] rfl (ih_c71_9 (v11 + 1) s22 (by omega) (by omega) hS_s22 (zFr_u (zFr_u (zFr_u (zFr_t (zFr_t (zFr_t zFr_rf hF_s10 (by decide)) hF_s15 (by decide)) hF_s16 (by decide)) e_s20 (zr (k := 56) (t2 := 105) hG ha rfl) (by decide)) e_s21 (zr (k := 56) (t2 := 105) hG ha rfl) (by decide)) e_s22 (zr (k := 56) (t2 := 105) hG ha rfl) (by decide)) (by omega))
            exact j_sub [1, 2, 3, 4, 0] [(0, .ref a), (1, .int (zI x1)), (2, .int (zI x2)), (3, .int (zI x3)), (4, .int (zI 0))] rfl (c71_9 (2147483648 * 4) 0 s8 (by omega) (by omega) hS_s8 zFr_rf (by omega))
          · skip
            refine j_aload_n hx 0 dX12_lot_50 rfl ?_
            refine g13_56 hx hG ha kf_RX12_121 dX12_lot_51 ?_
            refine j_iload hx 4 dX12_lot_54 rfl ?_
            refine j_iconst hx dX12_lot_56 ?_
            refine j_iast hx hG (zr (k := 56) (t2 := 105) hG ha rfl) (by decide) rfl (zlen hG (zr (k := 56) (t2 := 105) hG ha rfl) (n := 6) rfl rfl) (by omega) (by omega) (j := (v7).toNat) rfl dX12_lot_57 ?_
            obtain ⟨s23, e_s23⟩ : ∃ z, z = zU s4 (gP G a 56) (v7).toNat 0 := ⟨_, rfl⟩
            rw [← e_s23]
            have hS_s23 : zSK G s23 := by rw [e_s23]; exact zSK_A hS_s4 (zr (k := 56) (t2 := 105) hG ha rfl) rfl rfl rfl (by omega)
            refine j_iinc hx 4 [(4, .int (zI (v7 + 1))), (0, .ref a), (1, .int (zI x1)), (2, .int (zI x2)), (3, .int (zI x3))] dX12_lot_58 rfl (by omega) (by decide) rfl ?_
            refine j_goto hx 43 dX12_lot_61 rfl ?_
            exact j_sub [1, 2, 3, 4, 0] [(0, .ref a), (1, .int (zI x1)), (2, .int (zI x2)), (3, .int (zI x3)), (4, .int (zI (v7 + 1)))] rfl (ih_c43_3 (v7 + 1) s23 (by omega) (by omega) hS_s23 (zFr_u (zFr_t zFr_rf hF_s4 (by decide)) e_s23 (zr (k := 56) (t2 := 105) hG ha rfl) (by decide)))
      exact j_sub [1, 2, 3, 4, 0] [(0, .ref a), (1, .int (zI x1)), (2, .int (zI x2)), (3, .int (zI x3)), (4, .int (zI 0))] rfl (c43_3 (2147483648 * 4) 0 s2 (by omega) (by omega) hS_s2 zFr_rf)
    · skip
      refine j_iconst hx dX12_lot_38 ?_
      have f44 := zf hS_s2 ha (k := 0) rfl
      exact j_iret hx hq rfl (by decide) (by decide) dX12_lot_39 ⟨0, rfl, rfl, hS_s2, (zFr_t (zFr_u zFr_rf e_s1 ha (by decide)) hF_s2 (by decide)), ⟨(by omega), by omega⟩⟩
  · skip
    refine j_iload_n hx 3 dX12_lot_16 rfl ?_
    refine j_iconst hx dX12_lot_17 ?_
    refine j_iconst hx dX12_lot_18 ?_
    refine j_callS hx (c_X12_within hst x3 0 5) lk_RX12_314 [.int (zI x3), .int (zI 0), .int (zI 5)] ⟨rfl, hG, hS_s1, (by omega), (by omega), (by omega)⟩ rfl rfl ⟨by decide, by decide⟩ ⟨by decide, by decide⟩ (k2 := 0) (n2 := 0) rfl rfl (Nat.le_of_ble_eq_true rfl) dX12_lot_19 (kIP (fun v45 q46 => ?_))
    refine j_if_eq hx 29 dX12_lot_22 rfl (by omega) (fun h47 => ?_) (fun h47 => ?_)
    · skip
      refine j_iconst hx dX12_lot_29 ?_
      refine j_iconst hx dX12_lot_30 ?_
      refine j_iconst hx dX12_lot_31 ?_
      refine j_callV hx hG (c_X12_may hst a 0 1 1) lk_RX12_240 ha (by decide) rfl rfl rfl rfl [.int (zI 0), .int (zI 1), .int (zI 1)] ⟨rfl, hG, hS_s1, ha, (by omega), (by omega), (by omega)⟩ rfl rfl ⟨by decide, by decide⟩ ⟨by decide, by decide⟩ (k2 := 0) (n2 := 0) rfl rfl (Nat.le_of_ble_eq_true rfl) dX12_lot_32 (kIM (fun v48 s24 hS_s24 hF_s24 q49 => ?_))
      refine j_if_ne hx 40 dX12_lot_35 rfl (by omega) (fun h50 => ?_) (fun h50 => ?_)
      · skip
        refine j_iconst hx dX12_lot_40 ?_
        refine j_istore hx [(4, .int (zI 0)), (0, .ref a), (1, .int (zI x1)), (2, .int (zI x2)), (3, .int (zI x3))] dX12_lot_41 (by decide) rfl ?_
        have c43_25 : ∀ (m_c43_25 : Nat) (v51 : Int) (s26 : zS), 2147483648 - v51 < m_c43_25 → (0 ≤ v51 ∧ v51 ≤ 6) → (zSK G s26) → (zFr [105] G s24 s26) → JJ X E 5 G s26 0 0 [(0, .ref a), (1, .int (zI x1)), (2, .int (zI x2)), (3, .int (zI x3)), (4, .int (zI v51))] 43 [] := by
          intro m_c43_25
          induction m_c43_25 with
          | zero => intro v51 s26 hm_c43_25 f27 hS_s26 hF_s26; exfalso; omega
          | succ m_c43_25 ih_c43_25 => 
            intro v51 s26 hm_c43_25 f27 hS_s26 hF_s26
            refine j_iload hx 4 dX12_lot_43 rfl ?_
            refine j_bipush hx dX12_lot_45 rfl ?_
            refine j_icmp_ge hx 64 dX12_lot_47 rfl (by omega) ⟨by decide, by decide⟩ (fun h52 => ?_) (fun h52 => ?_)
            · skip
              refine j_aload_n hx 0 dX12_lot_64 rfl ?_
              refine j_callV hx hG (c_X12_keeps hst a) lk_RX12_444 ha (by decide) rfl rfl rfl rfl [] ⟨rfl, hG, hS_s26, ha⟩ rfl rfl ⟨by decide, by decide⟩ ⟨by decide, by decide⟩ (k2 := 0) (n2 := 0) rfl rfl (Nat.le_of_ble_eq_true rfl) dX12_lot_65 (kVM (fun s30 hS_s30 hF_s30 q54 => ?_))
              refine j_iconst hx dX12_lot_68 ?_
              refine j_istore hx [(4, .int (zI 0)), (0, .ref a), (1, .int (zI x1)), (2, .int (zI x2)), (3, .int (zI x3))] dX12_lot_69 (by decide) rfl ?_
              have g56 : s30 a 0 = s24 a 0 := (by rw [(zFr_g hF_s30 ha (by decide)), (zFr_g hF_s26 ha (by decide))])
              have f57 := zf hS_s24 ha (k := 0) rfl
              have c71_31 : ∀ (m_c71_31 : Nat) (v55 : Int) (s32 : zS), 2147483648 - v55 < m_c71_31 → (0 ≤ v55 ∧ v55 ≤ 2147483647) → (zSK G s32) → (zFr [13, 84, 87, 101, 102, 103, 105] G s30 s32) → (s32 a 0 = s30 a 0) → JJ X E 5 G s32 0 0 [(0, .ref a), (1, .int (zI x1)), (2, .int (zI x2)), (3, .int (zI x3)), (4, .int (zI v55))] 71 [] := by
                intro m_c71_31
                induction m_c71_31 with
                | zero => intro v55 s32 hm_c71_31 f33 hS_s32 hF_s32 f36; exfalso; omega
                | succ m_c71_31 ih_c71_31 => 
                  intro v55 s32 hm_c71_31 f33 hS_s32 hF_s32 f36
                  refine j_iload hx 4 dX12_lot_71 rfl ?_
                  refine j_iload_n hx 2 dX12_lot_73 rfl ?_
                  refine j_icmp_ge hx 213 dX12_lot_74 rfl (by omega) (by omega) (fun h58 => ?_) (fun h58 => ?_)
                  · skip
                    refine j_aload_n hx 0 dX12_lot_213 rfl ?_
                    refine g13_56 hx hG ha kf_RX12_121 dX12_lot_214 ?_
                    refine j_iload_n hx 3 dX12_lot_217 rfl ?_
                    have f59 := zaI (j := (x3).toNat) hS_s32 (zr (k := 56) (t2 := 105) hG ha rfl) rfl (zlen hG (zr (k := 56) (t2 := 105) hG ha rfl) (n := 6) rfl rfl) (show 0 ≤ x3 by omega) (by omega) rfl
                    refine j_iald hx hG (zr (k := 56) (t2 := 105) hG ha rfl) (by decide) rfl (zlen hG (zr (k := 56) (t2 := 105) hG ha rfl) (n := 6) rfl rfl) (by omega) (by omega) (j := (x3).toNat) rfl rfl dX12_lot_218 ?_
                    have f60 := zf hS_s32 ha (k := 0) rfl
                    exact j_iret hx hq rfl (by decide) (by decide) dX12_lot_219 ⟨(s32 (gP G a 56) (x3).toNat), rfl, rfl, hS_s32, (zFr_t (zFr_t (zFr_t (zFr_t (zFr_u zFr_rf e_s1 ha (by decide)) hF_s24 (by decide)) hF_s26 (by decide)) hF_s30 (by decide)) hF_s32 (by decide)), ⟨(by omega), by omega⟩⟩
                  · skip
                    refine j_aload_n hx 0 dX12_lot_77 rfl ?_
                    refine j_iload_n hx 1 dX12_lot_78 rfl ?_
                    refine j_iload hx 4 dX12_lot_79 rfl ?_
                    refine j_iadd hx (r := x1 + v55) dX12_lot_81 rfl ?_
                    refine j_norm (fun v61 f62 f63 f64 => ?_)
                    refine j_callV hx hG (c_X12_shuffles hst a v61) lk_RX12_495 ha (by decide) rfl rfl rfl rfl [.int (zI v61)] ⟨rfl, hG, hS_s32, ha, (by omega)⟩ rfl rfl ⟨by decide, by decide⟩ ⟨by decide, by decide⟩ (k2 := 0) (n2 := 0) rfl rfl (Nat.le_of_ble_eq_true rfl) dX12_lot_82 (kVP (fun q66 => ?_))
                    refine j_aload_n hx 0 dX12_lot_85 rfl ?_
                    refine j_callV hx hG (c_X12_findEnds hst a) lk_RX12_447 ha (by decide) rfl rfl rfl rfl [] ⟨rfl, hG, hS_s32, ha⟩ rfl rfl ⟨by decide, by decide⟩ ⟨by decide, by decide⟩ (k2 := 0) (n2 := 0) rfl rfl (Nat.le_of_ble_eq_true rfl) dX12_lot_86 (kVM (fun s37 hS_s37 hF_s37 q68 => ?_))
                    refine j_aload_n hx 0 dX12_lot_89 rfl ?_
                    refine j_callV hx hG (c_X12_back hst a) lk_RX12_450 ha (by decide) rfl rfl rfl rfl [] ⟨rfl, hG, hS_s37, ha⟩ rfl rfl ⟨by decide, by decide⟩ ⟨by decide, by decide⟩ (k2 := 0) (n2 := 0) rfl rfl (Nat.le_of_ble_eq_true rfl) dX12_lot_90 (kVM (fun s38 hS_s38 hF_s38 q70 => ?_))
                    refine j_aload_n hx 0 dX12_lot_93 rfl ?_
                    refine g13_56 hx hG ha kf_RX12_121 dX12_lot_94 ?_
                    refine j_iconst hx dX12_lot_97 ?_
                    refine j_iload hx 4 dX12_lot_98 rfl ?_
                    refine j_if_eq hx 116 dX12_lot_100 rfl (by omega) (fun h71 => ?_) (fun h71 => ?_)
                    · skip
                      refine j_aload_n hx 0 dX12_lot_116 rfl ?_
                      refine g13_52 hx hG ha kf_RX12_429 (v := (s37 a 52)) (by rw [(zFr_g hF_s38 ha (by decide))]) dX12_lot_117 ?_
                      refine j_goto hx 129 dX12_lot_120 rfl ?_
                      refine j_iast hx hG (zr (k := 56) (t2 := 105) hG ha rfl) (by decide) rfl (zlen hG (zr (k := 56) (t2 := 105) hG ha rfl) (n := 6) rfl rfl) (by omega) (by omega) (j := 0) rfl dX12_lot_129 ?_
                      obtain ⟨s39, e_s39⟩ : ∃ z, z = zU s38 (gP G a 56) 0 ((s37 a 52)) := ⟨_, rfl⟩
                      rw [← e_s39]
                      have hS_s39 : zSK G s39 := by rw [e_s39]; exact zSK_A hS_s38 (zr (k := 56) (t2 := 105) hG ha rfl) rfl rfl rfl (by omega)
                      refine j_aload_n hx 0 dX12_lot_130 rfl ?_
                      refine g13_56 hx hG ha kf_RX12_121 dX12_lot_131 ?_
                      refine j_iconst hx dX12_lot_134 ?_
                      refine j_aload_n hx 0 dX12_lot_135 rfl ?_
                      refine g13_52 hx hG ha kf_RX12_429 (v := (s37 a 52)) (by rw [e_s39, zU_at (Or.inl (zne (zr (k := 56) (t2 := 105) hG ha rfl) ha (by decide))), (zFr_g hF_s38 ha (by decide))]) dX12_lot_136 ?_
                      refine j_aload_n hx 0 dX12_lot_139 rfl ?_
                      refine g13_56 hx hG ha kf_RX12_121 dX12_lot_140 ?_
                      refine j_iconst hx dX12_lot_143 ?_
                      have f72 := zaI (j := 1) hS_s32 (zr (k := 56) (t2 := 105) hG ha rfl) rfl (zlen hG (zr (k := 56) (t2 := 105) hG ha rfl) (n := 6) rfl rfl) (show 0 ≤ 1 by omega) (by omega) rfl
                      refine j_iald hx hG (zr (k := 56) (t2 := 105) hG ha rfl) (by decide) rfl (zlen hG (zr (k := 56) (t2 := 105) hG ha rfl) (n := 6) rfl rfl) (by omega) (by omega) (j := 1) rfl (v := (s32 (gP G a 56) 1)) (by rw [e_s39, zU_at (Or.inr (by decide)), (zFr_g hF_s38 (zr (k := 56) (t2 := 105) hG ha rfl) (by decide)), (zFr_g hF_s37 (zr (k := 56) (t2 := 105) hG ha rfl) (by decide))]) dX12_lot_144 ?_
                      refine j_icmp_le hx 155 dX12_lot_145 rfl (by omega) (by omega) (fun h73 => ?_) (fun h73 => absurd h73 (by omega))
                      refine j_aload_n hx 0 dX12_lot_155 rfl ?_
                      refine g13_56 hx hG ha kf_RX12_121 dX12_lot_156 ?_
                      refine j_iconst hx dX12_lot_159 ?_
                      refine j_iald hx hG (zr (k := 56) (t2 := 105) hG ha rfl) (by decide) rfl (zlen hG (zr (k := 56) (t2 := 105) hG ha rfl) (n := 6) rfl rfl) (by omega) (by omega) (j := 1) rfl (v := (s32 (gP G a 56) 1)) (by rw [e_s39, zU_at (Or.inr (by decide)), (zFr_g hF_s38 (zr (k := 56) (t2 := 105) hG ha rfl) (by decide)), (zFr_g hF_s37 (zr (k := 56) (t2 := 105) hG ha rfl) (by decide))]) dX12_lot_160 ?_
                      refine j_iast hx hG (zr (k := 56) (t2 := 105) hG ha rfl) (by decide) rfl (zlen hG (zr (k := 56) (t2 := 105) hG ha rfl) (n := 6) rfl rfl) (by omega) (by omega) (j := 1) rfl dX12_lot_161 ?_
                      obtain ⟨s40, e_s40⟩ : ∃ z, z = zU s39 (gP G a 56) 1 ((s32 (gP G a 56) 1)) := ⟨_, rfl⟩
                      rw [← e_s40]
                      have hS_s40 : zSK G s40 := by rw [e_s40]; exact zSK_A hS_s39 (zr (k := 56) (t2 := 105) hG ha rfl) rfl rfl rfl (by omega)
                      refine j_aload_n hx 0 dX12_lot_162 rfl ?_
                      refine g13_54 hx hG ha kf_RX12_441 (v := (s37 a 54)) (by rw [e_s40, zU_at (Or.inl (zne (zr (k := 56) (t2 := 105) hG ha rfl) ha (by decide))), e_s39, zU_at (Or.inl (zne (zr (k := 56) (t2 := 105) hG ha rfl) ha (by decide))), (zFr_g hF_s38 ha (by decide))]) dX12_lot_163 ?_
                      refine j_iconst hx dX12_lot_166 ?_
                      refine j_icmp_eq hx 185 dX12_lot_167 rfl (by omega) ⟨by decide, by decide⟩ (fun h74 => ?_) (fun h74 => absurd h74 (by omega))
                      refine j_aload_n hx 0 dX12_lot_185 rfl ?_
                      refine g13_56 hx hG ha kf_RX12_121 dX12_lot_186 ?_
                      refine j_iconst hx dX12_lot_189 ?_
                      refine j_dup2 hx dX12_lot_190 rfl rfl ?_
                      have f75 := zaI (j := 5) hS_s32 (zr (k := 56) (t2 := 105) hG ha rfl) rfl (zlen hG (zr (k := 56) (t2 := 105) hG ha rfl) (n := 6) rfl rfl) (show 0 ≤ 5 by omega) (by omega) rfl
                      refine j_iald hx hG (zr (k := 56) (t2 := 105) hG ha rfl) (by decide) rfl (zlen hG (zr (k := 56) (t2 := 105) hG ha rfl) (n := 6) rfl rfl) (by omega) (by omega) (j := 5) rfl (v := (s32 (gP G a 56) 5)) (by rw [e_s40, zU_at (Or.inr (by decide)), e_s39, zU_at (Or.inr (by decide)), (zFr_g hF_s38 (zr (k := 56) (t2 := 105) hG ha rfl) (by decide)), (zFr_g hF_s37 (zr (k := 56) (t2 := 105) hG ha rfl) (by decide))]) dX12_lot_191 ?_
                      refine j_aload_n hx 0 dX12_lot_192 rfl ?_
                      refine g13_51 hx hG ha kf_RX12_432 (v := (s37 a 51)) (by rw [e_s40, zU_at (Or.inl (zne (zr (k := 56) (t2 := 105) hG ha rfl) ha (by decide))), e_s39, zU_at (Or.inl (zne (zr (k := 56) (t2 := 105) hG ha rfl) ha (by decide))), (zFr_g hF_s38 ha (by decide))]) dX12_lot_193 ?_
                      refine j_iconst hx dX12_lot_196 ?_
                      refine j_icmp_ne hx 204 dX12_lot_197 rfl (by omega) ⟨by decide, by decide⟩ (fun h76 => absurd h76 (by omega)) (fun h76 => ?_)
                      refine j_iconst hx dX12_lot_200 ?_
                      refine j_goto hx 205 dX12_lot_201 rfl ?_
                      refine j_iadd hx (r := (s32 (gP G a 56) 5)) dX12_lot_205 (by omega) ?_
                      refine j_iast hx hG (zr (k := 56) (t2 := 105) hG ha rfl) (by decide) rfl (zlen hG (zr (k := 56) (t2 := 105) hG ha rfl) (n := 6) rfl rfl) (by omega) (by omega) (j := 5) rfl dX12_lot_206 ?_
                      obtain ⟨s41, e_s41⟩ : ∃ z, z = zU s40 (gP G a 56) 5 ((s32 (gP G a 56) 5)) := ⟨_, rfl⟩
                      rw [← e_s41]
                      have hS_s41 : zSK G s41 := by rw [e_s41]; exact zSK_A hS_s40 (zr (k := 56) (t2 := 105) hG ha rfl) rfl rfl rfl (by omega)
                      refine j_iinc hx 4 [(4, .int (zI (v55 + 1))), (0, .ref a), (1, .int (zI x1)), (2, .int (zI x2)), (3, .int (zI x3))] dX12_lot_207 rfl (by omega) (by decide) rfl ?_
                      refine j_goto hx 71 dX12_lot_210 rfl ?_
                      have g77 : s41 a 0 = s37 a 0 := (by rw [e_s41, zU_at (Or.inl (zne (zr (k := 56) (t2 := 105) hG ha rfl) ha (by decide))), e_s40, zU_at (Or.inl (zne (zr (k := 56) (t2 := 105) hG ha rfl) ha (by decide))), e_s39, zU_at (Or.inl (zne (zr (k := 56) (t2 := 105) hG ha rfl) ha (by decide))), (zFr_g hF_s38 ha (by decide))])
                      have f78 := zf hS_s37 ha (k := 0) rfl
                      exact j_sub [1, 2, 3, 4, 0] [(0, .ref a), (1, .int (zI x1)), (2, .int (zI x2)), (3, .int (zI x3)), (4, .int (zI (v55 + 1)))] rfl (ih_c71_31 (v55 + 1) s41 (by omega) (by omega) hS_s41 (zFr_u (zFr_u (zFr_u (zFr_t (zFr_t (zFr_t zFr_rf hF_s32 (by decide)) hF_s37 (by decide)) hF_s38 (by decide)) e_s39 (zr (k := 56) (t2 := 105) hG ha rfl) (by decide)) e_s40 (zr (k := 56) (t2 := 105) hG ha rfl) (by decide)) e_s41 (zr (k := 56) (t2 := 105) hG ha rfl) (by decide)) (by omega))
                    · skip
                      refine j_aload_n hx 0 dX12_lot_103 rfl ?_
                      refine g13_52 hx hG ha kf_RX12_429 (v := (s37 a 52)) (by rw [(zFr_g hF_s38 ha (by decide))]) dX12_lot_104 ?_
                      refine j_aload_n hx 0 dX12_lot_107 rfl ?_
                      refine g13_56 hx hG ha kf_RX12_121 dX12_lot_108 ?_
                      refine j_iconst hx dX12_lot_111 ?_
                      have f79 := zaI (j := 0) hS_s32 (zr (k := 56) (t2 := 105) hG ha rfl) rfl (zlen hG (zr (k := 56) (t2 := 105) hG ha rfl) (n := 6) rfl rfl) (show 0 ≤ 0 by omega) (by omega) rfl
                      refine j_iald hx hG (zr (k := 56) (t2 := 105) hG ha rfl) (by decide) rfl (zlen hG (zr (k := 56) (t2 := 105) hG ha rfl) (n := 6) rfl rfl) (by omega) (by omega) (j := 0) rfl (v := (s32 (gP G a 56) 0)) (by rw [(zFr_g hF_s38 (zr (k := 56) (t2 := 105) hG ha rfl) (by decide)), (zFr_g hF_s37 (zr (k := 56) (t2 := 105) hG ha rfl) (by decide))]) dX12_lot_112 ?_
                      refine j_icmp_ge hx 123 dX12_lot_113 rfl (by omega) (by omega) (fun h80 => ?_) (fun h80 => absurd h80 (by omega))
                      refine j_aload_n hx 0 dX12_lot_123 rfl ?_
                      refine g13_56 hx hG ha kf_RX12_121 dX12_lot_124 ?_
                      refine j_iconst hx dX12_lot_127 ?_
                      refine j_iald hx hG (zr (k := 56) (t2 := 105) hG ha rfl) (by decide) rfl (zlen hG (zr (k := 56) (t2 := 105) hG ha rfl) (n := 6) rfl rfl) (by omega) (by omega) (j := 0) rfl (v := (s32 (gP G a 56) 0)) (by rw [(zFr_g hF_s38 (zr (k := 56) (t2 := 105) hG ha rfl) (by decide)), (zFr_g hF_s37 (zr (k := 56) (t2 := 105) hG ha rfl) (by decide))]) dX12_lot_128 ?_
                      refine j_iast hx hG (zr (k := 56) (t2 := 105) hG ha rfl) (by decide) rfl (zlen hG (zr (k := 56) (t2 := 105) hG ha rfl) (n := 6) rfl rfl) (by omega) (by omega) (j := 0) rfl dX12_lot_129 ?_
                      obtain ⟨s42, e_s42⟩ : ∃ z, z = zU s38 (gP G a 56) 0 ((s32 (gP G a 56) 0)) := ⟨_, rfl⟩
                      rw [← e_s42]
                      have hS_s42 : zSK G s42 := by rw [e_s42]; exact zSK_A hS_s38 (zr (k := 56) (t2 := 105) hG ha rfl) rfl rfl rfl (by omega)
                      refine j_aload_n hx 0 dX12_lot_130 rfl ?_
                      refine g13_56 hx hG ha kf_RX12_121 dX12_lot_131 ?_
                      refine j_iconst hx dX12_lot_134 ?_
                      refine j_aload_n hx 0 dX12_lot_135 rfl ?_
                      refine g13_52 hx hG ha kf_RX12_429 (v := (s37 a 52)) (by rw [e_s42, zU_at (Or.inl (zne (zr (k := 56) (t2 := 105) hG ha rfl) ha (by decide))), (zFr_g hF_s38 ha (by decide))]) dX12_lot_136 ?_
                      refine j_aload_n hx 0 dX12_lot_139 rfl ?_
                      refine g13_56 hx hG ha kf_RX12_121 dX12_lot_140 ?_
                      refine j_iconst hx dX12_lot_143 ?_
                      have f81 := zaI (j := 1) hS_s32 (zr (k := 56) (t2 := 105) hG ha rfl) rfl (zlen hG (zr (k := 56) (t2 := 105) hG ha rfl) (n := 6) rfl rfl) (show 0 ≤ 1 by omega) (by omega) rfl
                      refine j_iald hx hG (zr (k := 56) (t2 := 105) hG ha rfl) (by decide) rfl (zlen hG (zr (k := 56) (t2 := 105) hG ha rfl) (n := 6) rfl rfl) (by omega) (by omega) (j := 1) rfl (v := (s32 (gP G a 56) 1)) (by rw [e_s42, zU_at (Or.inr (by decide)), (zFr_g hF_s38 (zr (k := 56) (t2 := 105) hG ha rfl) (by decide)), (zFr_g hF_s37 (zr (k := 56) (t2 := 105) hG ha rfl) (by decide))]) dX12_lot_144 ?_
                      refine j_icmp_le hx 155 dX12_lot_145 rfl (by omega) (by omega) (fun h82 => ?_) (fun h82 => absurd h82 (by omega))
                      refine j_aload_n hx 0 dX12_lot_155 rfl ?_
                      refine g13_56 hx hG ha kf_RX12_121 dX12_lot_156 ?_
                      refine j_iconst hx dX12_lot_159 ?_
                      refine j_iald hx hG (zr (k := 56) (t2 := 105) hG ha rfl) (by decide) rfl (zlen hG (zr (k := 56) (t2 := 105) hG ha rfl) (n := 6) rfl rfl) (by omega) (by omega) (j := 1) rfl (v := (s32 (gP G a 56) 1)) (by rw [e_s42, zU_at (Or.inr (by decide)), (zFr_g hF_s38 (zr (k := 56) (t2 := 105) hG ha rfl) (by decide)), (zFr_g hF_s37 (zr (k := 56) (t2 := 105) hG ha rfl) (by decide))]) dX12_lot_160 ?_
                      refine j_iast hx hG (zr (k := 56) (t2 := 105) hG ha rfl) (by decide) rfl (zlen hG (zr (k := 56) (t2 := 105) hG ha rfl) (n := 6) rfl rfl) (by omega) (by omega) (j := 1) rfl dX12_lot_161 ?_
                      obtain ⟨s43, e_s43⟩ : ∃ z, z = zU s42 (gP G a 56) 1 ((s32 (gP G a 56) 1)) := ⟨_, rfl⟩
                      rw [← e_s43]
                      have hS_s43 : zSK G s43 := by rw [e_s43]; exact zSK_A hS_s42 (zr (k := 56) (t2 := 105) hG ha rfl) rfl rfl rfl (by omega)
                      refine j_aload_n hx 0 dX12_lot_162 rfl ?_
                      refine g13_54 hx hG ha kf_RX12_441 (v := (s37 a 54)) (by rw [e_s43, zU_at (Or.inl (zne (zr (k := 56) (t2 := 105) hG ha rfl) ha (by decide))), e_s42, zU_at (Or.inl (zne (zr (k := 56) (t2 := 105) hG ha rfl) ha (by decide))), (zFr_g hF_s38 ha (by decide))]) dX12_lot_163 ?_
                      refine j_iconst hx dX12_lot_166 ?_
                      refine j_icmp_eq hx 185 dX12_lot_167 rfl (by omega) ⟨by decide, by decide⟩ (fun h83 => ?_) (fun h83 => absurd h83 (by omega))
                      refine j_aload_n hx 0 dX12_lot_185 rfl ?_
                      refine g13_56 hx hG ha kf_RX12_121 dX12_lot_186 ?_
                      refine j_iconst hx dX12_lot_189 ?_
                      refine j_dup2 hx dX12_lot_190 rfl rfl ?_
                      have f84 := zaI (j := 5) hS_s32 (zr (k := 56) (t2 := 105) hG ha rfl) rfl (zlen hG (zr (k := 56) (t2 := 105) hG ha rfl) (n := 6) rfl rfl) (show 0 ≤ 5 by omega) (by omega) rfl
                      refine j_iald hx hG (zr (k := 56) (t2 := 105) hG ha rfl) (by decide) rfl (zlen hG (zr (k := 56) (t2 := 105) hG ha rfl) (n := 6) rfl rfl) (by omega) (by omega) (j := 5) rfl (v := (s32 (gP G a 56) 5)) (by rw [e_s43, zU_at (Or.inr (by decide)), e_s42, zU_at (Or.inr (by decide)), (zFr_g hF_s38 (zr (k := 56) (t2 := 105) hG ha rfl) (by decide)), (zFr_g hF_s37 (zr (k := 56) (t2 := 105) hG ha rfl) (by decide))]) dX12_lot_191 ?_
                      refine j_aload_n hx 0 dX12_lot_192 rfl ?_
                      refine g13_51 hx hG ha kf_RX12_432 (v := (s37 a 51)) (by rw [e_s43, zU_at (Or.inl (zne (zr (k := 56) (t2 := 105) hG ha rfl) ha (by decide))), e_s42, zU_at (Or.inl (zne (zr (k := 56) (t2 := 105) hG ha rfl) ha (by decide))), (zFr_g hF_s38 ha (by decide))]) dX12_lot_193 ?_
                      refine j_iconst hx dX12_lot_196 ?_
                      refine j_icmp_ne hx 204 dX12_lot_197 rfl (by omega) ⟨by decide, by decide⟩ (fun h85 => absurd h85 (by omega)) (fun h85 => ?_)
                      refine j_iconst hx dX12_lot_200 ?_
                      refine j_goto hx 205 dX12_lot_201 rfl ?_
                      refine j_iadd hx (r := (s32 (gP G a 56) 5)) dX12_lot_205 (by omega) ?_
                      refine j_iast hx hG (zr (k := 56) (t2 := 105) hG ha rfl) (by decide) rfl (zlen hG (zr (k := 56) (t2 := 105) hG ha rfl) (n := 6) rfl rfl) (by omega) (by omega) (j := 5) rfl dX12_lot_206 ?_
                      obtain ⟨s44, e_s44⟩ : ∃ z, z = zU s43 (gP G a 56) 5 ((s32 (gP G a 56) 5)) := ⟨_, rfl⟩
                      rw [← e_s44]
                      have hS_s44 : zSK G s44 := by rw [e_s44]; exact zSK_A hS_s43 (zr (k := 56) (t2 := 105) hG ha rfl) rfl rfl rfl (by omega)
                      refine j_iinc hx 4 [(4, .int (zI (v55 + 1))), (0, .ref a), (1, .int (zI x1)), (2, .int (zI x2)), (3, .int (zI x3))] dX12_lot_207 rfl (by omega) (by decide) rfl ?_
                      refine j_goto hx 71 dX12_lot_210 rfl ?_
                      have g86 : s44 a 0 = s37 a 0 := (by rw [e_s44, zU_at (Or.inl (zne (zr (k := 56) (t2 := 105) hG ha rfl) ha (by decide))), e_s43, zU_at (Or.inl (zne (zr (k := 56) (t2 := 105) hG ha rfl) ha (by decide))), e_s42, zU_at (Or.inl (zne (zr (k := 56) (t2 := 105) hG ha rfl) ha (by decide))), (zFr_g hF_s38 ha (by decide))])
                      have f87 := zf hS_s37 ha (k := 0) rfl
                      exact j_sub [1, 2, 3, 4, 0] [(0, .ref a), (1, .int (zI x1)), (2, .int (zI x2)), (3, .int (zI x3)), (4, .int (zI (v55 + 1)))] rfl (ih_c71_31 (v55 + 1) s44 (by omega) (by omega) hS_s44 (zFr_u (zFr_u (zFr_u (zFr_t (zFr_t (zFr_t zFr_rf hF_s32 (by decide)) hF_s37 (by decide)) hF_s38 (by decide)) e_s42 (zr (k := 56) (t2 := 105) hG ha rfl) (by decide)) e_s43 (zr (k := 56) (t2 := 105) hG ha rfl) (by decide)) e_s44 (zr (k := 56) (t2 := 105) hG ha rfl) (by decide)) (by omega))
              exact j_sub [1, 2, 3, 4, 0] [(0, .ref a), (1, .int (zI x1)), (2, .int (zI x2)), (3, .int (zI x3)), (4, .int (zI 0))] rfl (c71_31 (2147483648 * 4) 0 s30 (by omega) (by omega) hS_s30 zFr_rf (by omega))
            · skip
              refine j_aload_n hx 0 dX12_lot_50 rfl ?_
              refine g13_56 hx hG ha kf_RX12_121 dX12_lot_51 ?_
              refine j_iload hx 4 dX12_lot_54 rfl ?_
              refine j_iconst hx dX12_lot_56 ?_
              refine j_iast hx hG (zr (k := 56) (t2 := 105) hG ha rfl) (by decide) rfl (zlen hG (zr (k := 56) (t2 := 105) hG ha rfl) (n := 6) rfl rfl) (by omega) (by omega) (j := (v51).toNat) rfl dX12_lot_57 ?_
              obtain ⟨s45, e_s45⟩ : ∃ z, z = zU s26 (gP G a 56) (v51).toNat 0 := ⟨_, rfl⟩
              rw [← e_s45]
              have hS_s45 : zSK G s45 := by rw [e_s45]; exact zSK_A hS_s26 (zr (k := 56) (t2 := 105) hG ha rfl) rfl rfl rfl (by omega)
              refine j_iinc hx 4 [(4, .int (zI (v51 + 1))), (0, .ref a), (1, .int (zI x1)), (2, .int (zI x2)), (3, .int (zI x3))] dX12_lot_58 rfl (by omega) (by decide) rfl ?_
              refine j_goto hx 43 dX12_lot_61 rfl ?_
              exact j_sub [1, 2, 3, 4, 0] [(0, .ref a), (1, .int (zI x1)), (2, .int (zI x2)), (3, .int (zI x3)), (4, .int (zI (v51 + 1)))] rfl (ih_c43_25 (v51 + 1) s45 (by omega) (by omega) hS_s45 (zFr_u (zFr_t zFr_rf hF_s26 (by decide)) e_s45 (zr (k := 56) (t2 := 105) hG ha rfl) (by decide)))
        exact j_sub [1, 2, 3, 4, 0] [(0, .ref a), (1, .int (zI x1)), (2, .int (zI x2)), (3, .int (zI x3)), (4, .int (zI 0))] rfl (c43_25 (2147483648 * 4) 0 s24 (by omega) (by omega) hS_s24 zFr_rf)
      · skip
        refine j_iconst hx dX12_lot_38 ?_
        have f88 := zf hS_s24 ha (k := 0) rfl
        exact j_iret hx hq rfl (by decide) (by decide) dX12_lot_39 ⟨0, rfl, rfl, hS_s24, (zFr_t (zFr_u zFr_rf e_s1 ha (by decide)) hF_s24 (by decide)), ⟨(by omega), by omega⟩⟩
    · skip
      refine j_iconst hx dX12_lot_25 ?_
      refine j_goto hx 30 dX12_lot_26 rfl ?_
      refine j_iconst hx dX12_lot_30 ?_
      refine j_iconst hx dX12_lot_31 ?_
      refine j_callV hx hG (c_X12_may hst a 1 1 1) lk_RX12_240 ha (by decide) rfl rfl rfl rfl [.int (zI 1), .int (zI 1), .int (zI 1)] ⟨rfl, hG, hS_s1, ha, (by omega), (by omega), (by omega)⟩ rfl rfl ⟨by decide, by decide⟩ ⟨by decide, by decide⟩ (k2 := 0) (n2 := 0) rfl rfl (Nat.le_of_ble_eq_true rfl) dX12_lot_32 (kIM (fun v89 s46 hS_s46 hF_s46 q90 => ?_))
      refine j_if_ne hx 40 dX12_lot_35 rfl (by omega) (fun h91 => ?_) (fun h91 => ?_)
      · skip
        refine j_iconst hx dX12_lot_40 ?_
        refine j_istore hx [(4, .int (zI 0)), (0, .ref a), (1, .int (zI x1)), (2, .int (zI x2)), (3, .int (zI x3))] dX12_lot_41 (by decide) rfl ?_
        have c43_47 : ∀ (m_c43_47 : Nat) (v92 : Int) (s48 : zS), 2147483648 - v92 < m_c43_47 → (0 ≤ v92 ∧ v92 ≤ 6) → (zSK G s48) → (zFr [105] G s46 s48) → JJ X E 5 G s48 0 0 [(0, .ref a), (1, .int (zI x1)), (2, .int (zI x2)), (3, .int (zI x3)), (4, .int (zI v92))] 43 [] := by
          intro m_c43_47
          induction m_c43_47 with
          | zero => intro v92 s48 hm_c43_47 f49 hS_s48 hF_s48; exfalso; omega
          | succ m_c43_47 ih_c43_47 => 
            intro v92 s48 hm_c43_47 f49 hS_s48 hF_s48
            refine j_iload hx 4 dX12_lot_43 rfl ?_
            refine j_bipush hx dX12_lot_45 rfl ?_
            refine j_icmp_ge hx 64 dX12_lot_47 rfl (by omega) ⟨by decide, by decide⟩ (fun h93 => ?_) (fun h93 => ?_)
            · skip
              refine j_aload_n hx 0 dX12_lot_64 rfl ?_
              refine j_callV hx hG (c_X12_keeps hst a) lk_RX12_444 ha (by decide) rfl rfl rfl rfl [] ⟨rfl, hG, hS_s48, ha⟩ rfl rfl ⟨by decide, by decide⟩ ⟨by decide, by decide⟩ (k2 := 0) (n2 := 0) rfl rfl (Nat.le_of_ble_eq_true rfl) dX12_lot_65 (kVM (fun s52 hS_s52 hF_s52 q95 => ?_))
              refine j_iconst hx dX12_lot_68 ?_
              refine j_istore hx [(4, .int (zI 0)), (0, .ref a), (1, .int (zI x1)), (2, .int (zI x2)), (3, .int (zI x3))] dX12_lot_69 (by decide) rfl ?_
              have g97 : s52 a 0 = s46 a 0 := (by rw [(zFr_g hF_s52 ha (by decide)), (zFr_g hF_s48 ha (by decide))])
              have f98 := zf hS_s46 ha (k := 0) rfl
              have c71_53 : ∀ (m_c71_53 : Nat) (v96 : Int) (s54 : zS), 2147483648 - v96 < m_c71_53 → (0 ≤ v96 ∧ v96 ≤ 2147483647) → (zSK G s54) → (zFr [13, 84, 87, 101, 102, 103, 105] G s52 s54) → (s54 a 0 = s52 a 0) → JJ X E 5 G s54 0 0 [(0, .ref a), (1, .int (zI x1)), (2, .int (zI x2)), (3, .int (zI x3)), (4, .int (zI v96))] 71 [] := by
                intro m_c71_53
                induction m_c71_53 with
                | zero => intro v96 s54 hm_c71_53 f55 hS_s54 hF_s54 f58; exfalso; omega
                | succ m_c71_53 ih_c71_53 => 
                  intro v96 s54 hm_c71_53 f55 hS_s54 hF_s54 f58
                  refine j_iload hx 4 dX12_lot_71 rfl ?_
                  refine j_iload_n hx 2 dX12_lot_73 rfl ?_
                  refine j_icmp_ge hx 213 dX12_lot_74 rfl (by omega) (by omega) (fun h99 => ?_) (fun h99 => ?_)
                  · skip
                    refine j_aload_n hx 0 dX12_lot_213 rfl ?_
                    refine g13_56 hx hG ha kf_RX12_121 dX12_lot_214 ?_
                    refine j_iload_n hx 3 dX12_lot_217 rfl ?_
                    have f100 := zaI (j := (x3).toNat) hS_s54 (zr (k := 56) (t2 := 105) hG ha rfl) rfl (zlen hG (zr (k := 56) (t2 := 105) hG ha rfl) (n := 6) rfl rfl) (show 0 ≤ x3 by omega) (by omega) rfl
                    refine j_iald hx hG (zr (k := 56) (t2 := 105) hG ha rfl) (by decide) rfl (zlen hG (zr (k := 56) (t2 := 105) hG ha rfl) (n := 6) rfl rfl) (by omega) (by omega) (j := (x3).toNat) rfl rfl dX12_lot_218 ?_
                    have f101 := zf hS_s54 ha (k := 0) rfl
                    exact j_iret hx hq rfl (by decide) (by decide) dX12_lot_219 ⟨(s54 (gP G a 56) (x3).toNat), rfl, rfl, hS_s54, (zFr_t (zFr_t (zFr_t (zFr_t (zFr_u zFr_rf e_s1 ha (by decide)) hF_s46 (by decide)) hF_s48 (by decide)) hF_s52 (by decide)) hF_s54 (by decide)), ⟨(by omega), by omega⟩⟩
                  · skip
                    refine j_aload_n hx 0 dX12_lot_77 rfl ?_
                    refine j_iload_n hx 1 dX12_lot_78 rfl ?_
                    refine j_iload hx 4 dX12_lot_79 rfl ?_
                    refine j_iadd hx (r := x1 + v96) dX12_lot_81 rfl ?_
                    refine j_norm (fun v102 f103 f104 f105 => ?_)
                    refine j_callV hx hG (c_X12_shuffles hst a v102) lk_RX12_495 ha (by decide) rfl rfl rfl rfl [.int (zI v102)] ⟨rfl, hG, hS_s54, ha, (by omega)⟩ rfl rfl ⟨by decide, by decide⟩ ⟨by decide, by decide⟩ (k2 := 0) (n2 := 0) rfl rfl (Nat.le_of_ble_eq_true rfl) dX12_lot_82 (kVP (fun q107 => ?_))
                    refine j_aload_n hx 0 dX12_lot_85 rfl ?_
                    refine j_callV hx hG (c_X12_findEnds hst a) lk_RX12_447 ha (by decide) rfl rfl rfl rfl [] ⟨rfl, hG, hS_s54, ha⟩ rfl rfl ⟨by decide, by decide⟩ ⟨by decide, by decide⟩ (k2 := 0) (n2 := 0) rfl rfl (Nat.le_of_ble_eq_true rfl) dX12_lot_86 (kVM (fun s59 hS_s59 hF_s59 q109 => ?_))
                    refine j_aload_n hx 0 dX12_lot_89 rfl ?_
                    refine j_callV hx hG (c_X12_back hst a) lk_RX12_450 ha (by decide) rfl rfl rfl rfl [] ⟨rfl, hG, hS_s59, ha⟩ rfl rfl ⟨by decide, by decide⟩ ⟨by decide, by decide⟩ (k2 := 0) (n2 := 0) rfl rfl (Nat.le_of_ble_eq_true rfl) dX12_lot_90 (kVM (fun s60 hS_s60 hF_s60 q111 => ?_))
                    refine j_aload_n hx 0 dX12_lot_93 rfl ?_
                    refine g13_56 hx hG ha kf_RX12_121 dX12_lot_94 ?_
                    refine j_iconst hx dX12_lot_97 ?_
                    refine j_iload hx 4 dX12_lot_98 rfl ?_
                    refine j_if_eq hx 116 dX12_lot_100 rfl (by omega) (fun h112 => ?_) (fun h112 => ?_)
                    · skip
                      refine j_aload_n hx 0 dX12_lot_116 rfl ?_
                      refine g13_52 hx hG ha kf_RX12_429 (v := (s59 a 52)) (by rw [(zFr_g hF_s60 ha (by decide))]) dX12_lot_117 ?_
                      refine j_goto hx 129 dX12_lot_120 rfl ?_
                      refine j_iast hx hG (zr (k := 56) (t2 := 105) hG ha rfl) (by decide) rfl (zlen hG (zr (k := 56) (t2 := 105) hG ha rfl) (n := 6) rfl rfl) (by omega) (by omega) (j := 0) rfl dX12_lot_129 ?_
                      obtain ⟨s61, e_s61⟩ : ∃ z, z = zU s60 (gP G a 56) 0 ((s59 a 52)) := ⟨_, rfl⟩
                      rw [← e_s61]
                      have hS_s61 : zSK G s61 := by rw [e_s61]; exact zSK_A hS_s60 (zr (k := 56) (t2 := 105) hG ha rfl) rfl rfl rfl (by omega)
                      refine j_aload_n hx 0 dX12_lot_130 rfl ?_
                      refine g13_56 hx hG ha kf_RX12_121 dX12_lot_131 ?_
                      refine j_iconst hx dX12_lot_134 ?_
                      refine j_aload_n hx 0 dX12_lot_135 rfl ?_
                      refine g13_52 hx hG ha kf_RX12_429 (v := (s59 a 52)) (by rw [e_s61, zU_at (Or.inl (zne (zr (k := 56) (t2 := 105) hG ha rfl) ha (by decide))), (zFr_g hF_s60 ha (by decide))]) dX12_lot_136 ?_
                      refine j_aload_n hx 0 dX12_lot_139 rfl ?_
                      refine g13_56 hx hG ha kf_RX12_121 dX12_lot_140 ?_
                      refine j_iconst hx dX12_lot_143 ?_
                      have f113 := zaI (j := 1) hS_s54 (zr (k := 56) (t2 := 105) hG ha rfl) rfl (zlen hG (zr (k := 56) (t2 := 105) hG ha rfl) (n := 6) rfl rfl) (show 0 ≤ 1 by omega) (by omega) rfl
                      refine j_iald hx hG (zr (k := 56) (t2 := 105) hG ha rfl) (by decide) rfl (zlen hG (zr (k := 56) (t2 := 105) hG ha rfl) (n := 6) rfl rfl) (by omega) (by omega) (j := 1) rfl (v := (s54 (gP G a 56) 1)) (by rw [e_s61, zU_at (Or.inr (by decide)), (zFr_g hF_s60 (zr (k := 56) (t2 := 105) hG ha rfl) (by decide)), (zFr_g hF_s59 (zr (k := 56) (t2 := 105) hG ha rfl) (by decide))]) dX12_lot_144 ?_
                      refine j_icmp_le hx 155 dX12_lot_145 rfl (by omega) (by omega) (fun h114 => ?_) (fun h114 => absurd h114 (by omega))
                      refine j_aload_n hx 0 dX12_lot_155 rfl ?_
                      refine g13_56 hx hG ha kf_RX12_121 dX12_lot_156 ?_
                      refine j_iconst hx dX12_lot_159 ?_
                      refine j_iald hx hG (zr (k := 56) (t2 := 105) hG ha rfl) (by decide) rfl (zlen hG (zr (k := 56) (t2 := 105) hG ha rfl) (n := 6) rfl rfl) (by omega) (by omega) (j := 1) rfl (v := (s54 (gP G a 56) 1)) (by rw [e_s61, zU_at (Or.inr (by decide)), (zFr_g hF_s60 (zr (k := 56) (t2 := 105) hG ha rfl) (by decide)), (zFr_g hF_s59 (zr (k := 56) (t2 := 105) hG ha rfl) (by decide))]) dX12_lot_160 ?_
                      refine j_iast hx hG (zr (k := 56) (t2 := 105) hG ha rfl) (by decide) rfl (zlen hG (zr (k := 56) (t2 := 105) hG ha rfl) (n := 6) rfl rfl) (by omega) (by omega) (j := 1) rfl dX12_lot_161 ?_
                      obtain ⟨s62, e_s62⟩ : ∃ z, z = zU s61 (gP G a 56) 1 ((s54 (gP G a 56) 1)) := ⟨_, rfl⟩
                      rw [← e_s62]
                      have hS_s62 : zSK G s62 := by rw [e_s62]; exact zSK_A hS_s61 (zr (k := 56) (t2 := 105) hG ha rfl) rfl rfl rfl (by omega)
                      refine j_aload_n hx 0 dX12_lot_162 rfl ?_
                      refine g13_54 hx hG ha kf_RX12_441 (v := (s59 a 54)) (by rw [e_s62, zU_at (Or.inl (zne (zr (k := 56) (t2 := 105) hG ha rfl) ha (by decide))), e_s61, zU_at (Or.inl (zne (zr (k := 56) (t2 := 105) hG ha rfl) ha (by decide))), (zFr_g hF_s60 ha (by decide))]) dX12_lot_163 ?_
                      refine j_iconst hx dX12_lot_166 ?_
                      refine j_icmp_eq hx 185 dX12_lot_167 rfl (by omega) ⟨by decide, by decide⟩ (fun h115 => ?_) (fun h115 => absurd h115 (by omega))
                      refine j_aload_n hx 0 dX12_lot_185 rfl ?_
                      refine g13_56 hx hG ha kf_RX12_121 dX12_lot_186 ?_
                      refine j_iconst hx dX12_lot_189 ?_
                      refine j_dup2 hx dX12_lot_190 rfl rfl ?_
                      have f116 := zaI (j := 5) hS_s54 (zr (k := 56) (t2 := 105) hG ha rfl) rfl (zlen hG (zr (k := 56) (t2 := 105) hG ha rfl) (n := 6) rfl rfl) (show 0 ≤ 5 by omega) (by omega) rfl
                      refine j_iald hx hG (zr (k := 56) (t2 := 105) hG ha rfl) (by decide) rfl (zlen hG (zr (k := 56) (t2 := 105) hG ha rfl) (n := 6) rfl rfl) (by omega) (by omega) (j := 5) rfl (v := (s54 (gP G a 56) 5)) (by rw [e_s62, zU_at (Or.inr (by decide)), e_s61, zU_at (Or.inr (by decide)), (zFr_g hF_s60 (zr (k := 56) (t2 := 105) hG ha rfl) (by decide)), (zFr_g hF_s59 (zr (k := 56) (t2 := 105) hG ha rfl) (by decide))]) dX12_lot_191 ?_
                      refine j_aload_n hx 0 dX12_lot_192 rfl ?_
                      refine g13_51 hx hG ha kf_RX12_432 (v := (s59 a 51)) (by rw [e_s62, zU_at (Or.inl (zne (zr (k := 56) (t2 := 105) hG ha rfl) ha (by decide))), e_s61, zU_at (Or.inl (zne (zr (k := 56) (t2 := 105) hG ha rfl) ha (by decide))), (zFr_g hF_s60 ha (by decide))]) dX12_lot_193 ?_
                      refine j_iconst hx dX12_lot_196 ?_
                      refine j_icmp_ne hx 204 dX12_lot_197 rfl (by omega) ⟨by decide, by decide⟩ (fun h117 => absurd h117 (by omega)) (fun h117 => ?_)
                      refine j_iconst hx dX12_lot_200 ?_
                      refine j_goto hx 205 dX12_lot_201 rfl ?_
                      refine j_iadd hx (r := (s54 (gP G a 56) 5)) dX12_lot_205 (by omega) ?_
                      refine j_iast hx hG (zr (k := 56) (t2 := 105) hG ha rfl) (by decide) rfl (zlen hG (zr (k := 56) (t2 := 105) hG ha rfl) (n := 6) rfl rfl) (by omega) (by omega) (j := 5) rfl dX12_lot_206 ?_
                      obtain ⟨s63, e_s63⟩ : ∃ z, z = zU s62 (gP G a 56) 5 ((s54 (gP G a 56) 5)) := ⟨_, rfl⟩
                      rw [← e_s63]
                      have hS_s63 : zSK G s63 := by rw [e_s63]; exact zSK_A hS_s62 (zr (k := 56) (t2 := 105) hG ha rfl) rfl rfl rfl (by omega)
                      refine j_iinc hx 4 [(4, .int (zI (v96 + 1))), (0, .ref a), (1, .int (zI x1)), (2, .int (zI x2)), (3, .int (zI x3))] dX12_lot_207 rfl (by omega) (by decide) rfl ?_
                      refine j_goto hx 71 dX12_lot_210 rfl ?_
                      have g118 : s63 a 0 = s59 a 0 := (by rw [e_s63, zU_at (Or.inl (zne (zr (k := 56) (t2 := 105) hG ha rfl) ha (by decide))), e_s62, zU_at (Or.inl (zne (zr (k := 56) (t2 := 105) hG ha rfl) ha (by decide))), e_s61, zU_at (Or.inl (zne (zr (k := 56) (t2 := 105) hG ha rfl) ha (by decide))), (zFr_g hF_s60 ha (by decide))])
                      have f119 := zf hS_s59 ha (k := 0) rfl
                      exact j_sub [1, 2, 3, 4, 0] [(0, .ref a), (1, .int (zI x1)), (2, .int (zI x2)), (3, .int (zI x3)), (4, .int (zI (v96 + 1)))] rfl (ih_c71_53 (v96 + 1) s63 (by omega) (by omega) hS_s63 (zFr_u (zFr_u (zFr_u (zFr_t (zFr_t (zFr_t zFr_rf hF_s54 (by decide)) hF_s59 (by decide)) hF_s60 (by decide)) e_s61 (zr (k := 56) (t2 := 105) hG ha rfl) (by decide)) e_s62 (zr (k := 56) (t2 := 105) hG ha rfl) (by decide)) e_s63 (zr (k := 56) (t2 := 105) hG ha rfl) (by decide)) (by omega))
                    · skip
                      refine j_aload_n hx 0 dX12_lot_103 rfl ?_
                      refine g13_52 hx hG ha kf_RX12_429 (v := (s59 a 52)) (by rw [(zFr_g hF_s60 ha (by decide))]) dX12_lot_104 ?_
                      refine j_aload_n hx 0 dX12_lot_107 rfl ?_
                      refine g13_56 hx hG ha kf_RX12_121 dX12_lot_108 ?_
                      refine j_iconst hx dX12_lot_111 ?_
                      have f120 := zaI (j := 0) hS_s54 (zr (k := 56) (t2 := 105) hG ha rfl) rfl (zlen hG (zr (k := 56) (t2 := 105) hG ha rfl) (n := 6) rfl rfl) (show 0 ≤ 0 by omega) (by omega) rfl
                      refine j_iald hx hG (zr (k := 56) (t2 := 105) hG ha rfl) (by decide) rfl (zlen hG (zr (k := 56) (t2 := 105) hG ha rfl) (n := 6) rfl rfl) (by omega) (by omega) (j := 0) rfl (v := (s54 (gP G a 56) 0)) (by rw [(zFr_g hF_s60 (zr (k := 56) (t2 := 105) hG ha rfl) (by decide)), (zFr_g hF_s59 (zr (k := 56) (t2 := 105) hG ha rfl) (by decide))]) dX12_lot_112 ?_
                      refine j_icmp_ge hx 123 dX12_lot_113 rfl (by omega) (by omega) (fun h121 => ?_) (fun h121 => absurd h121 (by omega))
                      refine j_aload_n hx 0 dX12_lot_123 rfl ?_
                      refine g13_56 hx hG ha kf_RX12_121 dX12_lot_124 ?_
                      refine j_iconst hx dX12_lot_127 ?_
                      refine j_iald hx hG (zr (k := 56) (t2 := 105) hG ha rfl) (by decide) rfl (zlen hG (zr (k := 56) (t2 := 105) hG ha rfl) (n := 6) rfl rfl) (by omega) (by omega) (j := 0) rfl (v := (s54 (gP G a 56) 0)) (by rw [(zFr_g hF_s60 (zr (k := 56) (t2 := 105) hG ha rfl) (by decide)), (zFr_g hF_s59 (zr (k := 56) (t2 := 105) hG ha rfl) (by decide))]) dX12_lot_128 ?_
                      refine j_iast hx hG (zr (k := 56) (t2 := 105) hG ha rfl) (by decide) rfl (zlen hG (zr (k := 56) (t2 := 105) hG ha rfl) (n := 6) rfl rfl) (by omega) (by omega) (j := 0) rfl dX12_lot_129 ?_
                      obtain ⟨s64, e_s64⟩ : ∃ z, z = zU s60 (gP G a 56) 0 ((s54 (gP G a 56) 0)) := ⟨_, rfl⟩
                      rw [← e_s64]
                      have hS_s64 : zSK G s64 := by rw [e_s64]; exact zSK_A hS_s60 (zr (k := 56) (t2 := 105) hG ha rfl) rfl rfl rfl (by omega)
                      refine j_aload_n hx 0 dX12_lot_130 rfl ?_
                      refine g13_56 hx hG ha kf_RX12_121 dX12_lot_131 ?_
                      refine j_iconst hx dX12_lot_134 ?_
                      refine j_aload_n hx 0 dX12_lot_135 rfl ?_
                      refine g13_52 hx hG ha kf_RX12_429 (v := (s59 a 52)) (by rw [e_s64, zU_at (Or.inl (zne (zr (k := 56) (t2 := 105) hG ha rfl) ha (by decide))), (zFr_g hF_s60 ha (by decide))]) dX12_lot_136 ?_
                      refine j_aload_n hx 0 dX12_lot_139 rfl ?_
                      refine g13_56 hx hG ha kf_RX12_121 dX12_lot_140 ?_
                      refine j_iconst hx dX12_lot_143 ?_
                      have f122 := zaI (j := 1) hS_s54 (zr (k := 56) (t2 := 105) hG ha rfl) rfl (zlen hG (zr (k := 56) (t2 := 105) hG ha rfl) (n := 6) rfl rfl) (show 0 ≤ 1 by omega) (by omega) rfl
                      refine j_iald hx hG (zr (k := 56) (t2 := 105) hG ha rfl) (by decide) rfl (zlen hG (zr (k := 56) (t2 := 105) hG ha rfl) (n := 6) rfl rfl) (by omega) (by omega) (j := 1) rfl (v := (s54 (gP G a 56) 1)) (by rw [e_s64, zU_at (Or.inr (by decide)), (zFr_g hF_s60 (zr (k := 56) (t2 := 105) hG ha rfl) (by decide)), (zFr_g hF_s59 (zr (k := 56) (t2 := 105) hG ha rfl) (by decide))]) dX12_lot_144 ?_
                      refine j_icmp_le hx 155 dX12_lot_145 rfl (by omega) (by omega) (fun h123 => ?_) (fun h123 => absurd h123 (by omega))
                      refine j_aload_n hx 0 dX12_lot_155 rfl ?_
                      refine g13_56 hx hG ha kf_RX12_121 dX12_lot_156 ?_
                      refine j_iconst hx dX12_lot_159 ?_
                      refine j_iald hx hG (zr (k := 56) (t2 := 105) hG ha rfl) (by decide) rfl (zlen hG (zr (k := 56) (t2 := 105) hG ha rfl) (n := 6) rfl rfl) (by omega) (by omega) (j := 1) rfl (v := (s54 (gP G a 56) 1)) (by rw [e_s64, zU_at (Or.inr (by decide)), (zFr_g hF_s60 (zr (k := 56) (t2 := 105) hG ha rfl) (by decide)), (zFr_g hF_s59 (zr (k := 56) (t2 := 105) hG ha rfl) (by decide))]) dX12_lot_160 ?_
                      refine j_iast hx hG (zr (k := 56) (t2 := 105) hG ha rfl) (by decide) rfl (zlen hG (zr (k := 56) (t2 := 105) hG ha rfl) (n := 6) rfl rfl) (by omega) (by omega) (j := 1) rfl dX12_lot_161 ?_
                      obtain ⟨s65, e_s65⟩ : ∃ z, z = zU s64 (gP G a 56) 1 ((s54 (gP G a 56) 1)) := ⟨_, rfl⟩
                      rw [← e_s65]
                      have hS_s65 : zSK G s65 := by rw [e_s65]; exact zSK_A hS_s64 (zr (k := 56) (t2 := 105) hG ha rfl) rfl rfl rfl (by omega)
                      refine j_aload_n hx 0 dX12_lot_162 rfl ?_
                      refine g13_54 hx hG ha kf_RX12_441 (v := (s59 a 54)) (by rw [e_s65, zU_at (Or.inl (zne (zr (k := 56) (t2 := 105) hG ha rfl) ha (by decide))), e_s64, zU_at (Or.inl (zne (zr (k := 56) (t2 := 105) hG ha rfl) ha (by decide))), (zFr_g hF_s60 ha (by decide))]) dX12_lot_163 ?_
                      refine j_iconst hx dX12_lot_166 ?_
                      refine j_icmp_eq hx 185 dX12_lot_167 rfl (by omega) ⟨by decide, by decide⟩ (fun h124 => ?_) (fun h124 => absurd h124 (by omega))
                      refine j_aload_n hx 0 dX12_lot_185 rfl ?_
                      refine g13_56 hx hG ha kf_RX12_121 dX12_lot_186 ?_
                      refine j_iconst hx dX12_lot_189 ?_
                      refine j_dup2 hx dX12_lot_190 rfl rfl ?_
                      have f125 := zaI (j := 5) hS_s54 (zr (k := 56) (t2 := 105) hG ha rfl) rfl (zlen hG (zr (k := 56) (t2 := 105) hG ha rfl) (n := 6) rfl rfl) (show 0 ≤ 5 by omega) (by omega) rfl
                      refine j_iald hx hG (zr (k := 56) (t2 := 105) hG ha rfl) (by decide) rfl (zlen hG (zr (k := 56) (t2 := 105) hG ha rfl) (n := 6) rfl rfl) (by omega) (by omega) (j := 5) rfl (v := (s54 (gP G a 56) 5)) (by rw [e_s65, zU_at (Or.inr (by decide)), e_s64, zU_at (Or.inr (by decide)), (zFr_g hF_s60 (zr (k := 56) (t2 := 105) hG ha rfl) (by decide)), (zFr_g hF_s59 (zr (k := 56) (t2 := 105) hG ha rfl) (by decide))]) dX12_lot_191 ?_
                      refine j_aload_n hx 0 dX12_lot_192 rfl ?_
                      refine g13_51 hx hG ha kf_RX12_432 (v := (s59 a 51)) (by rw [e_s65, zU_at (Or.inl (zne (zr (k := 56) (t2 := 105) hG ha rfl) ha (by decide))), e_s64, zU_at (Or.inl (zne (zr (k := 56) (t2 := 105) hG ha rfl) ha (by decide))), (zFr_g hF_s60 ha (by decide))]) dX12_lot_193 ?_
                      refine j_iconst hx dX12_lot_196 ?_
                      refine j_icmp_ne hx 204 dX12_lot_197 rfl (by omega) ⟨by decide, by decide⟩ (fun h126 => absurd h126 (by omega)) (fun h126 => ?_)
                      refine j_iconst hx dX12_lot_200 ?_
                      refine j_goto hx 205 dX12_lot_201 rfl ?_
                      refine j_iadd hx (r := (s54 (gP G a 56) 5)) dX12_lot_205 (by omega) ?_
                      refine j_iast hx hG (zr (k := 56) (t2 := 105) hG ha rfl) (by decide) rfl (zlen hG (zr (k := 56) (t2 := 105) hG ha rfl) (n := 6) rfl rfl) (by omega) (by omega) (j := 5) rfl dX12_lot_206 ?_
                      obtain ⟨s66, e_s66⟩ : ∃ z, z = zU s65 (gP G a 56) 5 ((s54 (gP G a 56) 5)) := ⟨_, rfl⟩
                      rw [← e_s66]
                      have hS_s66 : zSK G s66 := by rw [e_s66]; exact zSK_A hS_s65 (zr (k := 56) (t2 := 105) hG ha rfl) rfl rfl rfl (by omega)
                      refine j_iinc hx 4 [(4, .int (zI (v96 + 1))), (0, .ref a), (1, .int (zI x1)), (2, .int (zI x2)), (3, .int (zI x3))] dX12_lot_207 rfl (by omega) (by decide) rfl ?_
                      refine j_goto hx 71 dX12_lot_210 rfl ?_
                      have g127 : s66 a 0 = s59 a 0 := (by rw [e_s66, zU_at (Or.inl (zne (zr (k := 56) (t2 := 105) hG ha rfl) ha (by decide))), e_s65, zU_at (Or.inl (zne (zr (k := 56) (t2 := 105) hG ha rfl) ha (by decide))), e_s64, zU_at (Or.inl (zne (zr (k := 56) (t2 := 105) hG ha rfl) ha (by decide))), (zFr_g hF_s60 ha (by decide))])
                      have f128 := zf hS_s59 ha (k := 0) rfl
                      exact j_sub [1, 2, 3, 4, 0] [(0, .ref a), (1, .int (zI x1)), (2, .int (zI x2)), (3, .int (zI x3)), (4, .int (zI (v96 + 1)))] rfl (ih_c71_53 (v96 + 1) s66 (by omega) (by omega) hS_s66 (zFr_u (zFr_u (zFr_u (zFr_t (zFr_t (zFr_t zFr_rf hF_s54 (by decide)) hF_s59 (by decide)) hF_s60 (by decide)) e_s64 (zr (k := 56) (t2 := 105) hG ha rfl) (by decide)) e_s65 (zr (k := 56) (t2 := 105) hG ha rfl) (by decide)) e_s66 (zr (k := 56) (t2 := 105) hG ha rfl) (by decide)) (by omega))
              exact j_sub [1, 2, 3, 4, 0] [(0, .ref a), (1, .int (zI x1)), (2, .int (zI x2)), (3, .int (zI x3)), (4, .int (zI 0))] rfl (c71_53 (2147483648 * 4) 0 s52 (by omega) (by omega) hS_s52 zFr_rf (by omega))
            · skip
              refine j_aload_n hx 0 dX12_lot_50 rfl ?_
              refine g13_56 hx hG ha kf_RX12_121 dX12_lot_51 ?_
              refine j_iload hx 4 dX12_lot_54 rfl ?_
              refine j_iconst hx dX12_lot_56 ?_
              refine j_iast hx hG (zr (k := 56) (t2 := 105) hG ha rfl) (by decide) rfl (zlen hG (zr (k := 56) (t2 := 105) hG ha rfl) (n := 6) rfl rfl) (by omega) (by omega) (j := (v92).toNat) rfl dX12_lot_57 ?_
              obtain ⟨s67, e_s67⟩ : ∃ z, z = zU s48 (gP G a 56) (v92).toNat 0 := ⟨_, rfl⟩
              rw [← e_s67]
              have hS_s67 : zSK G s67 := by rw [e_s67]; exact zSK_A hS_s48 (zr (k := 56) (t2 := 105) hG ha rfl) rfl rfl rfl (by omega)
              refine j_iinc hx 4 [(4, .int (zI (v92 + 1))), (0, .ref a), (1, .int (zI x1)), (2, .int (zI x2)), (3, .int (zI x3))] dX12_lot_58 rfl (by omega) (by decide) rfl ?_
              refine j_goto hx 43 dX12_lot_61 rfl ?_
              exact j_sub [1, 2, 3, 4, 0] [(0, .ref a), (1, .int (zI x1)), (2, .int (zI x2)), (3, .int (zI x3)), (4, .int (zI (v92 + 1)))] rfl (ih_c43_47 (v92 + 1) s67 (by omega) (by omega) hS_s67 (zFr_u (zFr_t zFr_rf hF_s48 (by decide)) e_s67 (zr (k := 56) (t2 := 105) hG ha rfl) (by decide)))
        exact j_sub [1, 2, 3, 4, 0] [(0, .ref a), (1, .int (zI x1)), (2, .int (zI x2)), (3, .int (zI x3)), (4, .int (zI 0))] rfl (c43_47 (2147483648 * 4) 0 s46 (by omega) (by omega) hS_s46 zFr_rf)
      · skip
        refine j_iconst hx dX12_lot_38 ?_
        have f129 := zf hS_s46 ha (k := 0) rfl
        exact j_iret hx hq rfl (by decide) (by decide) dX12_lot_39 ⟨0, rfl, rfl, hS_s46, (zFr_t (zFr_u zFr_rf e_s1 ha (by decide)) hF_s46 (by decide)), ⟨(by omega), by omega⟩⟩

set_option maxHeartbeats 4000000 in
set_option maxRecDepth 20000 in
theorem c_X12_film {E : zE} {l : Launch} (hst : l.stackTraces = false) (a : Nat) (x1 : Int) (x2 : Int) (x3 : Int) (x4 : Int) (x5 : Int) : Con E l yX12_film cX12_film 10 (some .int) { frames := 1, cells := 0, slots := 0, locals := 23 } (fun G s vs => vs = [.ref a, .int (zI x1), .int (zI x2), .int (zI x3), .int (zI x4), .int (zI x5)] ∧ zGK G ∧ zSK G s ∧ (gT G a = 13) ∧ ((-2147483648) ≤ x1 ∧ x1 ≤ 2147483647) ∧ ((-2147483648) ≤ x2 ∧ x2 ≤ 2147483647) ∧ ((-2147483648) ≤ x3 ∧ x3 ≤ 2147483647) ∧ ((-2147483648) ≤ x4 ∧ x4 ≤ 2147483647) ∧ ((-2147483648) ≤ x5 ∧ x5 ≤ 2147483647) ∧ (zS0m G s)) (fun G s _ => pI (fun r G2 s2 => G2 = G ∧ zSK G s2 ∧ zFr [13, 71] G s s2 ∧ (0 ≤ r ∧ r ≤ 10000) ∧ (((0 ≤ x1 ∧ x1 ≤ x2 ∧ x2 ≤ 99 ∧ 0 ≤ x3 ∧ x3 ≤ x4 ∧ x4 ≤ 99 ∧ 0 ≤ x5 ∧ x5 ≤ 2) → s2 a 0 = 0 ∧ ((x5 = 0 → r = zFE x1 x3 x4 (x2 + 1 - x1).toNat) ∧ (x5 = 1 → r = zFB x1 x3 x4 (x2 + 1 - x1).toNat) ∧ (x5 = 2 → r = (x2 - x1 + 1) * (x4 - x3 + 1)))) ∧ (¬ (0 ≤ x1 ∧ x1 ≤ x2 ∧ x2 ≤ 99 ∧ 0 ≤ x3 ∧ x3 ≤ x4 ∧ x4 ≤ 99 ∧ 0 ≤ x5 ∧ x5 ≤ 2) → s2 a 0 = 1)))) := by
  refine Con.mk hst (by decide) (fun G s vs h => by rw [h.1]; exact Nat.le_of_ble_eq_true rfl) ?_
  rintro X G s0 vs ⟨rfl, hG, hS0, ha, hx1, hx2, hx3, hx4, hx5, hF0⟩ rfl hx hq
  show JJ X E 10 G s0 0 0 [(0, .ref a), (1, .int (zI x1)), (2, .int (zI x2)), (3, .int (zI x3)), (4, .int (zI x4)), (5, .int (zI x5))] 0 []
  refine j_aload_n hx 0 dX12_film_0 rfl ?_
  refine j_iconst hx dX12_film_1 ?_
  refine p13_0 hx hG ha kf_RX12_3 dX12_film_2 ?_
  obtain ⟨s1, e_s1⟩ : ∃ z, z = zU s0 a 0 0 := ⟨_, rfl⟩
  rw [← e_s1]
  have hS_s1 : zSK G s1 := by rw [e_s1]; exact zSK_F hS0 ha rfl rfl rfl (by omega)
  refine j_aload_n hx 0 dX12_film_5 rfl ?_
  refine j_iload_n hx 1 dX12_film_6 rfl ?_
  refine j_iconst hx dX12_film_7 ?_
  refine j_iload_n hx 2 dX12_film_8 rfl ?_
  refine j_callS hx (c_X12_within hst x1 0 x2) lk_RX12_314 [.int (zI x1), .int (zI 0), .int (zI x2)] ⟨rfl, hG, hS_s1, (by omega), (by omega), (by omega)⟩ rfl rfl ⟨by decide, by decide⟩ ⟨by decide, by decide⟩ (k2 := 0) (n2 := 0) rfl rfl (Nat.le_of_ble_eq_true rfl) dX12_film_9 (kIP (fun v1 q2 => ?_))
  refine j_if_eq hx 52 dX12_film_12 rfl (by omega) (fun h3 => ?_) (fun h3 => ?_)
  · skip
    refine j_iconst hx dX12_film_52 ?_
    refine j_iconst hx dX12_film_53 ?_
    refine j_iconst hx dX12_film_54 ?_
    refine j_callV hx hG (c_X12_may hst a 0 1 1) lk_RX12_240 ha (by decide) rfl rfl rfl rfl [.int (zI 0), .int (zI 1), .int (zI 1)] ⟨rfl, hG, hS_s1, ha, (by omega), (by omega), (by omega)⟩ rfl rfl ⟨by decide, by decide⟩ ⟨by decide, by decide⟩ (k2 := 0) (n2 := 0) rfl rfl (Nat.le_of_ble_eq_true rfl) dX12_film_55 (kIM (fun v4 s2 hS_s2 hF_s2 q5 => ?_))
    refine j_if_ne hx 63 dX12_film_58 rfl (by omega) (fun h6 => ?_) (fun h6 => ?_)
    · skip
      refine j_iconst hx dX12_film_63 ?_
      refine j_istore hx [(6, .int (zI 0)), (0, .ref a), (1, .int (zI x1)), (2, .int (zI x2)), (3, .int (zI x3)), (4, .int (zI x4)), (5, .int (zI x5))] dX12_film_64 (by decide) rfl ?_
      refine j_iconst hx dX12_film_66 ?_
      refine j_istore hx [(7, .int (zI 0)), (6, .int (zI 0)), (0, .ref a), (1, .int (zI x1)), (2, .int (zI x2)), (3, .int (zI x3)), (4, .int (zI x4)), (5, .int (zI x5))] dX12_film_67 (by decide) rfl ?_
      refine j_iload_n hx 3 dX12_film_69 rfl ?_
      refine j_istore hx [(8, .int (zI x1)), (7, .int (zI 0)), (6, .int (zI 0)), (0, .ref a), (1, .int (zI x1)), (2, .int (zI x2)), (3, .int (zI x3)), (4, .int (zI x4)), (5, .int (zI x5))] dX12_film_70 (by decide) rfl ?_
      have c72_3 : ∀ (m_c72_3 : Nat) (v7 : Int) (v8 : Int) (v9 : Int), 2147483648 - v9 < m_c72_3 → ((-2147483648) ≤ v7 ∧ v7 ≤ 2147483647) → ((-2147483648) ≤ v8 ∧ v8 ≤ 2147483647) → ((-2147483648) ≤ v9 ∧ v9 ≤ 2147483647) → JJ X E 10 G s2 0 0 [(1, .int (zI x1)), (2, .int (zI x2)), (3, .int (zI x3)), (4, .int (zI x4)), (5, .int (zI x5)), (6, .int (zI v7)), (7, .int (zI v8)), (8, .int (zI v9))] 72 [] := by
        intro m_c72_3
        induction m_c72_3 with
        | zero => intro v7 v8 v9 hm_c72_3 f4 f5 f6; exfalso; omega
        | succ m_c72_3 ih_c72_3 => 
          intro v7 v8 v9 hm_c72_3 f4 f5 f6
          refine j_iload hx 7 dX12_film_72 rfl ?_
          refine j_iload_n hx 1 dX12_film_74 rfl ?_
          refine j_icmp_gt hx 134 dX12_film_75 rfl (by omega) (by omega) (fun h10 => ?_) (fun h10 => ?_)
          · skip
            refine j_iload hx 4 dX12_film_134 rfl ?_
            refine j_if_ne hx 144 dX12_film_136 rfl (by omega) (fun h11 => ?_) (fun h11 => ?_)
            · skip
              refine j_iload hx 4 dX12_film_144 rfl ?_
              refine j_iconst hx dX12_film_146 ?_
              refine j_icmp_ne hx 155 dX12_film_147 rfl (by omega) ⟨by decide, by decide⟩ (fun h12 => ?_) (fun h12 => ?_)
              · skip
                refine j_iload_n hx 1 dX12_film_155 rfl ?_
                refine j_iload_n hx 0 dX12_film_156 rfl ?_
                refine j_isub hx (r := x2 - x1) dX12_film_157 rfl ?_
                refine j_norm (fun v13 f14 f15 f16 => ?_)
                refine j_iconst hx dX12_film_158 ?_
                refine j_iadd hx (r := v13 + 1) dX12_film_159 rfl ?_
                refine j_norm (fun v17 f18 f19 f20 => ?_)
                refine j_iload hx 3 dX12_film_160 rfl ?_
                refine j_iload_n hx 2 dX12_film_162 rfl ?_
                refine j_isub hx (r := x4 - x3) dX12_film_163 rfl ?_
                refine j_norm (fun v21 f22 f23 f24 => ?_)
                refine j_iconst hx dX12_film_164 ?_
                refine j_iadd hx (r := v21 + 1) dX12_film_165 rfl ?_
                refine j_norm (fun v25 f26 f27 f28 => ?_)
                refine j_imul hx (r := (v17 * v25)) dX12_film_166 rfl ?_
                refine j_norm (fun v29 f30 f31 f32 => ?_)
                have f33 := zf hS_s2 ha (k := 0) rfl
                exact j_iret hx hq rfl (by decide) (by decide) dX12_film_167 ⟨v29, rfl, rfl, hS_s2, (zFr_t (zFr_u zFr_rf e_s1 ha (by decide)) hF_s2 (by decide)), ⟨(by omega), by omega⟩⟩
              · skip
                refine j_iload hx 6 dX12_film_150 rfl ?_
                refine j_goto hx 167 dX12_film_152 rfl ?_
                have f34 := zf hS_s2 ha (k := 0) rfl
                exact j_iret hx hq rfl (by decide) (by decide) dX12_film_167 ⟨v8, rfl, rfl, hS_s2, (zFr_t (zFr_u zFr_rf e_s1 ha (by decide)) hF_s2 (by decide)), ⟨(by omega), by omega⟩⟩
            · skip
              refine j_iload hx 5 dX12_film_139 rfl ?_
              refine j_goto hx 167 dX12_film_141 rfl ?_
              have f35 := zf hS_s2 ha (k := 0) rfl
              exact j_iret hx hq rfl (by decide) (by decide) dX12_film_167 ⟨v7, rfl, rfl, hS_s2, (zFr_t (zFr_u zFr_rf e_s1 ha (by decide)) hF_s2 (by decide)), ⟨(by omega), by omega⟩⟩
          · skip
            refine j_iload_n hx 2 dX12_film_78 rfl ?_
            refine j_istore hx [(9, .int (zI x3)), (1, .int (zI x1)), (2, .int (zI x2)), (3, .int (zI x3)), (4, .int (zI x4)), (5, .int (zI x5)), (6, .int (zI v7)), (7, .int (zI v8)), (8, .int (zI v9))] dX12_film_79 (by decide) rfl ?_
            have c81_7 : ∀ (m_c81_7 : Nat) (v36 : Int) (v37 : Int) (v38 : Int), 2147483648 - v38 < m_c81_7 → ((-2147483648) ≤ v36 ∧ v36 ≤ 2147483647) → ((-2147483648) ≤ v37 ∧ v37 ≤ 2147483647) → ((-2147483648) ≤ v38 ∧ v38 ≤ 2147483647) → JJ X E 10 G s2 0 0 [(1, .int (zI x1)), (2, .int (zI x2)), (3, .int (zI x3)), (4, .int (zI x4)), (5, .int (zI x5)), (6, .int (zI v36)), (7, .int (zI v37)), (8, .int (zI v9)), (9, .int (zI v38))] 81 [] := by
              intro m_c81_7
              induction m_c81_7 with
              | zero => intro v36 v37 v38 hm_c81_7 f8 f9 f10; exfalso; omega
              | succ m_c81_7 ih_c81_7 => 
                intro v36 v37 v38 hm_c81_7 f8 f9 f10
                refine j_iload hx 8 dX12_film_81 rfl ?_
                refine j_iload hx 3 dX12_film_83 rfl ?_
                refine j_icmp_gt hx 128 dX12_film_85 rfl (by omega) (by omega) (fun h39 => ?_) (fun h39 => ?_)
                · skip
                  refine j_iincN hx 7 (fun v40 => [(8, .int (zI v40)), (1, .int (zI x1)), (2, .int (zI x2)), (3, .int (zI x3)), (4, .int (zI x4)), (5, .int (zI x5)), (6, .int (zI v36)), (7, .int (zI v37)), (9, .int (zI v38))]) dX12_film_128 rfl (by decide) (fun _ => rfl) (fun v40 f41 f42 f43 => ?_)
                  refine j_goto hx 72 dX12_film_131 rfl ?_
                  exact j_sub [1, 2, 3, 4, 5, 6, 7, 0] [(1, .int (zI x1)), (2, .int (zI x2)), (3, .int (zI x3)), (4, .int (zI x4)), (5, .int (zI x5)), (6, .int (zI v36)), (7, .int (zI v37)), (8, .int (zI v40))] rfl (ih_c72_3 v36 v37 v40 (by omega) (by omega) (by omega) (by omega))
                · skip
                  refine j_iload hx 5 dX12_film_88 rfl ?_
                  refine j_iload hx 7 dX12_film_90 rfl ?_
                  refine j_iload hx 8 dX12_film_92 rfl ?_
                  refine j_icmp_ge hx 101 dX12_film_94 rfl (by omega) (by omega) (fun h44 => ?_) (fun h44 => ?_)
                  · skip
                    refine j_iconst hx dX12_film_101 ?_
                    refine j_iadd hx (r := v36) dX12_film_102 (by omega) ?_
                    refine j_istore hx [(6, .int (zI v36)), (1, .int (zI x1)), (2, .int (zI x2)), (3, .int (zI x3)), (4, .int (zI x4)), (5, .int (zI x5)), (7, .int (zI v37)), (8, .int (zI v9)), (9, .int (zI v38))] dX12_film_103 (by decide) rfl ?_
                    refine j_iload hx 6 dX12_film_105 rfl ?_
                    refine j_iload hx 7 dX12_film_107 rfl ?_
                    refine j_iload hx 8 dX12_film_109 rfl ?_
                    refine j_icmp_ne hx 118 dX12_film_111 rfl (by omega) (by omega) (fun h45 => ?_) (fun h45 => ?_)
                    · skip
                      refine j_iconst hx dX12_film_118 ?_
                      refine j_iadd hx (r := v37) dX12_film_119 (by omega) ?_
                      refine j_istore hx [(7, .int (zI v37)), (6, .int (zI v36)), (1, .int (zI x1)), (2, .int (zI x2)), (3, .int (zI x3)), (4, .int (zI x4)), (5, .int (zI x5)), (8, .int (zI v9)), (9, .int (zI v38))] dX12_film_120 (by decide) rfl ?_
                      refine j_iinc hx 8 [(9, .int (zI (v38 + 1))), (7, .int (zI v37)), (6, .int (zI v36)), (1, .int (zI x1)), (2, .int (zI x2)), (3, .int (zI x3)), (4, .int (zI x4)), (5, .int (zI x5)), (8, .int (zI v9))] dX12_film_122 rfl (by omega) (by decide) rfl ?_
                      refine j_goto hx 81 dX12_film_125 rfl ?_
                      exact j_sub [3, 4, 5, 6, 7, 2, 1, 8, 0] [(1, .int (zI x1)), (2, .int (zI x2)), (3, .int (zI x3)), (4, .int (zI x4)), (5, .int (zI x5)), (6, .int (zI v36)), (7, .int (zI v37)), (8, .int (zI v9)), (9, .int (zI (v38 + 1)))] rfl (ih_c81_7 v36 v37 (v38 + 1) (by omega) (by omega) (by omega) (by omega))
                    · skip
                      refine j_iconst hx dX12_film_114 ?_
                      refine j_goto hx 119 dX12_film_115 rfl ?_
                      refine j_iadd hx (r := v37 + 1) dX12_film_119 rfl ?_
                      refine j_norm (fun v46 f47 f48 f49 => ?_)
                      refine j_istore hx [(7, .int (zI v46)), (6, .int (zI v36)), (1, .int (zI x1)), (2, .int (zI x2)), (3, .int (zI x3)), (4, .int (zI x4)), (5, .int (zI x5)), (8, .int (zI v9)), (9, .int (zI v38))] dX12_film_120 (by decide) rfl ?_
                      refine j_iincN hx 8 (fun v50 => [(9, .int (zI v50)), (7, .int (zI v46)), (6, .int (zI v36)), (1, .int (zI x1)), (2, .int (zI x2)), (3, .int (zI x3)), (4, .int (zI x4)), (5, .int (zI x5)), (8, .int (zI v9))]) dX12_film_122 rfl (by decide) (fun _ => rfl) (fun v50 f51 f52 f53 => ?_)
                      refine j_goto hx 81 dX12_film_125 rfl ?_
                      exact j_sub [3, 4, 5, 6, 7, 2, 1, 8, 0] [(1, .int (zI x1)), (2, .int (zI x2)), (3, .int (zI x3)), (4, .int (zI x4)), (5, .int (zI x5)), (6, .int (zI v36)), (7, .int (zI v46)), (8, .int (zI v9)), (9, .int (zI v50))] rfl (ih_c81_7 v36 v46 v50 (by omega) (by omega) (by omega) (by omega))
                  · skip
                    refine j_iconst hx dX12_film_97 ?_
                    refine j_goto hx 102 dX12_film_98 rfl ?_
                    refine j_iadd hx (r := v36 + 1) dX12_film_102 rfl ?_
                    refine j_norm (fun v54 f55 f56 f57 => ?_)
                    refine j_istore hx [(6, .int (zI v54)), (1, .int (zI x1)), (2, .int (zI x2)), (3, .int (zI x3)), (4, .int (zI x4)), (5, .int (zI x5)), (7, .int (zI v37)), (8, .int (zI v9)), (9, .int (zI v38))] dX12_film_103 (by decide) rfl ?_
                    refine j_iload hx 6 dX12_film_105 rfl ?_
                    refine j_iload hx 7 dX12_film_107 rfl ?_
                    refine j_iload hx 8 dX12_film_109 rfl ?_
                    refine j_icmp_ne hx 118 dX12_film_111 rfl (by omega) (by omega) (fun h58 => ?_) (fun h58 => ?_)
                    · skip
                      refine j_iconst hx dX12_film_118 ?_
                      refine j_iadd hx (r := v37) dX12_film_119 (by omega) ?_
                      refine j_istore hx [(7, .int (zI v37)), (6, .int (zI v54)), (1, .int (zI x1)), (2, .int (zI x2)), (3, .int (zI x3)), (4, .int (zI x4)), (5, .int (zI x5)), (8, .int (zI v9)), (9, .int (zI v38))] dX12_film_120 (by decide) rfl ?_
                      refine j_iincN hx 8 (fun v59 => [(9, .int (zI v59)), (7, .int (zI v37)), (6, .int (zI v54)), (1, .int (zI x1)), (2, .int (zI x2)), (3, .int (zI x3)), (4, .int (zI x4)), (5, .int (zI x5)), (8, .int (zI v9))]) dX12_film_122 rfl (by decide) (fun _ => rfl) (fun v59 f60 f61 f62 => ?_)
                      refine j_goto hx 81 dX12_film_125 rfl ?_
                      exact j_sub [3, 4, 5, 6, 7, 2, 1, 8, 0] [(1, .int (zI x1)), (2, .int (zI x2)), (3, .int (zI x3)), (4, .int (zI x4)), (5, .int (zI x5)), (6, .int (zI v54)), (7, .int (zI v37)), (8, .int (zI v9)), (9, .int (zI v59))] rfl (ih_c81_7 v54 v37 v59 (by omega) (by omega) (by omega) (by omega))
                    · skip
                      refine j_iconst hx dX12_film_114 ?_
                      refine j_goto hx 119 dX12_film_115 rfl ?_
                      refine j_iadd hx (r := v37 + 1) dX12_film_119 rfl ?_
                      refine j_norm (fun v63 f64 f65 f66 => ?_)
                      refine j_istore hx [(7, .int (zI v63)), (6, .int (zI v54)), (1, .int (zI x1)), (2, .int (zI x2)), (3, .int (zI x3)), (4, .int (zI x4)), (5, .int (zI x5)), (8, .int (zI v9)), (9, .int (zI v38))] dX12_film_120 (by decide) rfl ?_
                      refine j_iinc hx 8 [(9, .int (zI (v38 + 1))), (7, .int (zI v63)), (6, .int (zI v54)), (1, .int (zI x1)), (2, .int (zI x2)), (3, .int (zI x3)), (4, .int (zI x4)), (5, .int (zI x5)), (8, .int (zI v9))] dX12_film_122 rfl (by omega) (by decide) rfl ?_
                      refine j_goto hx 81 dX12_film_125 rfl ?_
                      exact j_sub [3, 4, 5, 6, 7, 2, 1, 8, 0] [(1, .int (zI x1)), (2, .int (zI x2)), (3, .int (zI x3)), (4, .int (zI x4)), (5, .int (zI x5)), (6, .int (zI v54)), (7, .int (zI v63)), (8, .int (zI v9)), (9, .int (zI (v38 + 1)))] rfl (ih_c81_7 v54 v63 (v38 + 1) (by omega) (by omega) (by omega) (by omega))
            exact j_sub [1, 2, 3, 4, 5, 6, 7, 8, 0] [(1, .int (zI x1)), (2, .int (zI x2)), (3, .int (zI x3)), (4, .int (zI x4)), (5, .int (zI x5)), (6, .int (zI v7)), (7, .int (zI v8)), (8, .int (zI v9)), (9, .int (zI x3))] rfl (c81_7 (2147483648 * 4) v7 v8 x3 (by omega) (by omega) (by omega) (by omega))
      exact j_sub [4, 5, 6, 7, 8, 2, 1, 0] [(1, .int (zI x1)), (2, .int (zI x2)), (3, .int (zI x3)), (4, .int (zI x4)), (5, .int (zI x5)), (6, .int (zI 0)), (7, .int (zI 0)), (8, .int (zI x1))] rfl (c72_3 (2147483648 * 4) 0 0 x1 (by omega) (by omega) (by omega) (by omega))
    · skip
      refine j_iconst hx dX12_film_61 ?_
      have f67 := zf hS_s2 ha (k := 0) rfl
      exact j_iret hx hq rfl (by decide) (by decide) dX12_film_62 ⟨0, rfl, rfl, hS_s2, (zFr_t (zFr_u zFr_rf e_s1 ha (by decide)) hF_s2 (by decide)), ⟨(by omega), by omega⟩⟩
  · skip
    refine j_iload_n hx 2 dX12_film_15 rfl ?_
    refine j_bipush hx dX12_film_16 rfl ?_
    refine j_icmp_gt hx 52 dX12_film_18 rfl (by omega) ⟨by decide, by decide⟩ (fun h68 => ?_) (fun h68 => ?_)
    · skip
      refine j_iconst hx dX12_film_52 ?_
      refine j_iconst hx dX12_film_53 ?_
      refine j_iconst hx dX12_film_54 ?_
      refine j_callV hx hG (c_X12_may hst a 0 1 1) lk_RX12_240 ha (by decide) rfl rfl rfl rfl [.int (zI 0), .int (zI 1), .int (zI 1)] ⟨rfl, hG, hS_s1, ha, (by omega), (by omega), (by omega)⟩ rfl rfl ⟨by decide, by decide⟩ ⟨by decide, by decide⟩ (k2 := 0) (n2 := 0) rfl rfl (Nat.le_of_ble_eq_true rfl) dX12_film_55 (kIM (fun v69 s11 hS_s11 hF_s11 q70 => ?_))
      refine j_if_ne hx 63 dX12_film_58 rfl (by omega) (fun h71 => ?_) (fun h71 => ?_)
      · skip
        refine j_iconst hx dX12_film_63 ?_
        refine j_istore hx [(6, .int (zI 0)), (0, .ref a), (1, .int (zI x1)), (2, .int (zI x2)), (3, .int (zI x3)), (4, .int (zI x4)), (5, .int (zI x5))] dX12_film_64 (by decide) rfl ?_
        refine j_iconst hx dX12_film_66 ?_
        refine j_istore hx [(7, .int (zI 0)), (6, .int (zI 0)), (0, .ref a), (1, .int (zI x1)), (2, .int (zI x2)), (3, .int (zI x3)), (4, .int (zI x4)), (5, .int (zI x5))] dX12_film_67 (by decide) rfl ?_
        refine j_iload_n hx 3 dX12_film_69 rfl ?_
        refine j_istore hx [(8, .int (zI x1)), (7, .int (zI 0)), (6, .int (zI 0)), (0, .ref a), (1, .int (zI x1)), (2, .int (zI x2)), (3, .int (zI x3)), (4, .int (zI x4)), (5, .int (zI x5))] dX12_film_70 (by decide) rfl ?_
        have c72_12 : ∀ (m_c72_12 : Nat) (v72 : Int) (v73 : Int) (v74 : Int), 2147483648 - v74 < m_c72_12 → ((-2147483648) ≤ v72 ∧ v72 ≤ 2147483647) → ((-2147483648) ≤ v73 ∧ v73 ≤ 2147483647) → ((-2147483648) ≤ v74 ∧ v74 ≤ 2147483647) → JJ X E 10 G s11 0 0 [(1, .int (zI x1)), (2, .int (zI x2)), (3, .int (zI x3)), (4, .int (zI x4)), (5, .int (zI x5)), (6, .int (zI v72)), (7, .int (zI v73)), (8, .int (zI v74))] 72 [] := by
          intro m_c72_12
          induction m_c72_12 with
          | zero => intro v72 v73 v74 hm_c72_12 f13 f14 f15; exfalso; omega
          | succ m_c72_12 ih_c72_12 => 
            intro v72 v73 v74 hm_c72_12 f13 f14 f15
            refine j_iload hx 7 dX12_film_72 rfl ?_
            refine j_iload_n hx 1 dX12_film_74 rfl ?_
            refine j_icmp_gt hx 134 dX12_film_75 rfl (by omega) (by omega) (fun h75 => ?_) (fun h75 => ?_)
            · skip
              refine j_iload hx 4 dX12_film_134 rfl ?_
              refine j_if_ne hx 144 dX12_film_136 rfl (by omega) (fun h76 => ?_) (fun h76 => ?_)
              · skip
                refine j_iload hx 4 dX12_film_144 rfl ?_
                refine j_iconst hx dX12_film_146 ?_
                refine j_icmp_ne hx 155 dX12_film_147 rfl (by omega) ⟨by decide, by decide⟩ (fun h77 => ?_) (fun h77 => ?_)
                · skip
                  refine j_iload_n hx 1 dX12_film_155 rfl ?_
                  refine j_iload_n hx 0 dX12_film_156 rfl ?_
                  refine j_isub hx (r := x2 - x1) dX12_film_157 rfl ?_
                  refine j_norm (fun v78 f79 f80 f81 => ?_)
                  refine j_iconst hx dX12_film_158 ?_
                  refine j_iadd hx (r := v78 + 1) dX12_film_159 rfl ?_
                  refine j_norm (fun v82 f83 f84 f85 => ?_)
                  refine j_iload hx 3 dX12_film_160 rfl ?_
                  refine j_iload_n hx 2 dX12_film_162 rfl ?_
                  refine j_isub hx (r := x4 - x3) dX12_film_163 rfl ?_
                  refine j_norm (fun v86 f87 f88 f89 => ?_)
                  refine j_iconst hx dX12_film_164 ?_
                  refine j_iadd hx (r := v86 + 1) dX12_film_165 rfl ?_
                  refine j_norm (fun v90 f91 f92 f93 => ?_)
                  refine j_imul hx (r := (v82 * v90)) dX12_film_166 rfl ?_
                  refine j_norm (fun v94 f95 f96 f97 => ?_)
                  have f98 := zf hS_s11 ha (k := 0) rfl
                  exact j_iret hx hq rfl (by decide) (by decide) dX12_film_167 ⟨v94, rfl, rfl, hS_s11, (zFr_t (zFr_u zFr_rf e_s1 ha (by decide)) hF_s11 (by decide)), ⟨(by omega), by omega⟩⟩
                · skip
                  refine j_iload hx 6 dX12_film_150 rfl ?_
                  refine j_goto hx 167 dX12_film_152 rfl ?_
                  have f99 := zf hS_s11 ha (k := 0) rfl
                  exact j_iret hx hq rfl (by decide) (by decide) dX12_film_167 ⟨v73, rfl, rfl, hS_s11, (zFr_t (zFr_u zFr_rf e_s1 ha (by decide)) hF_s11 (by decide)), ⟨(by omega), by omega⟩⟩
              · skip
                refine j_iload hx 5 dX12_film_139 rfl ?_
                refine j_goto hx 167 dX12_film_141 rfl ?_
                have f100 := zf hS_s11 ha (k := 0) rfl
                exact j_iret hx hq rfl (by decide) (by decide) dX12_film_167 ⟨v72, rfl, rfl, hS_s11, (zFr_t (zFr_u zFr_rf e_s1 ha (by decide)) hF_s11 (by decide)), ⟨(by omega), by omega⟩⟩
            · skip
              refine j_iload_n hx 2 dX12_film_78 rfl ?_
              refine j_istore hx [(9, .int (zI x3)), (1, .int (zI x1)), (2, .int (zI x2)), (3, .int (zI x3)), (4, .int (zI x4)), (5, .int (zI x5)), (6, .int (zI v72)), (7, .int (zI v73)), (8, .int (zI v74))] dX12_film_79 (by decide) rfl ?_
              have c81_16 : ∀ (m_c81_16 : Nat) (v101 : Int) (v102 : Int) (v103 : Int), 2147483648 - v103 < m_c81_16 → ((-2147483648) ≤ v101 ∧ v101 ≤ 2147483647) → ((-2147483648) ≤ v102 ∧ v102 ≤ 2147483647) → ((-2147483648) ≤ v103 ∧ v103 ≤ 2147483647) → JJ X E 10 G s11 0 0 [(1, .int (zI x1)), (2, .int (zI x2)), (3, .int (zI x3)), (4, .int (zI x4)), (5, .int (zI x5)), (6, .int (zI v101)), (7, .int (zI v102)), (8, .int (zI v74)), (9, .int (zI v103))] 81 [] := by
                intro m_c81_16
                induction m_c81_16 with
                | zero => intro v101 v102 v103 hm_c81_16 f17 f18 f19; exfalso; omega
                | succ m_c81_16 ih_c81_16 => 
                  intro v101 v102 v103 hm_c81_16 f17 f18 f19
                  refine j_iload hx 8 dX12_film_81 rfl ?_
                  refine j_iload hx 3 dX12_film_83 rfl ?_
                  refine j_icmp_gt hx 128 dX12_film_85 rfl (by omega) (by omega) (fun h104 => ?_) (fun h104 => ?_)
                  · skip
                    refine j_iincN hx 7 (fun v105 => [(8, .int (zI v105)), (1, .int (zI x1)), (2, .int (zI x2)), (3, .int (zI x3)), (4, .int (zI x4)), (5, .int (zI x5)), (6, .int (zI v101)), (7, .int (zI v102)), (9, .int (zI v103))]) dX12_film_128 rfl (by decide) (fun _ => rfl) (fun v105 f106 f107 f108 => ?_)
                    refine j_goto hx 72 dX12_film_131 rfl ?_
                    exact j_sub [1, 2, 3, 4, 5, 6, 7, 0] [(1, .int (zI x1)), (2, .int (zI x2)), (3, .int (zI x3)), (4, .int (zI x4)), (5, .int (zI x5)), (6, .int (zI v101)), (7, .int (zI v102)), (8, .int (zI v105))] rfl (ih_c72_12 v101 v102 v105 (by omega) (by omega) (by omega) (by omega))
                  · skip
                    refine j_iload hx 5 dX12_film_88 rfl ?_
                    refine j_iload hx 7 dX12_film_90 rfl ?_
                    refine j_iload hx 8 dX12_film_92 rfl ?_
                    refine j_icmp_ge hx 101 dX12_film_94 rfl (by omega) (by omega) (fun h109 => ?_) (fun h109 => ?_)
                    · skip
                      refine j_iconst hx dX12_film_101 ?_
                      refine j_iadd hx (r := v101) dX12_film_102 (by omega) ?_
                      refine j_istore hx [(6, .int (zI v101)), (1, .int (zI x1)), (2, .int (zI x2)), (3, .int (zI x3)), (4, .int (zI x4)), (5, .int (zI x5)), (7, .int (zI v102)), (8, .int (zI v74)), (9, .int (zI v103))] dX12_film_103 (by decide) rfl ?_
                      refine j_iload hx 6 dX12_film_105 rfl ?_
                      refine j_iload hx 7 dX12_film_107 rfl ?_
                      refine j_iload hx 8 dX12_film_109 rfl ?_
                      refine j_icmp_ne hx 118 dX12_film_111 rfl (by omega) (by omega) (fun h110 => ?_) (fun h110 => ?_)
                      · skip
                        refine j_iconst hx dX12_film_118 ?_
                        refine j_iadd hx (r := v102) dX12_film_119 (by omega) ?_
                        refine j_istore hx [(7, .int (zI v102)), (6, .int (zI v101)), (1, .int (zI x1)), (2, .int (zI x2)), (3, .int (zI x3)), (4, .int (zI x4)), (5, .int (zI x5)), (8, .int (zI v74)), (9, .int (zI v103))] dX12_film_120 (by decide) rfl ?_
                        refine j_iinc hx 8 [(9, .int (zI (v103 + 1))), (7, .int (zI v102)), (6, .int (zI v101)), (1, .int (zI x1)), (2, .int (zI x2)), (3, .int (zI x3)), (4, .int (zI x4)), (5, .int (zI x5)), (8, .int (zI v74))] dX12_film_122 rfl (by omega) (by decide) rfl ?_
                        refine j_goto hx 81 dX12_film_125 rfl ?_
                        exact j_sub [3, 4, 5, 6, 7, 2, 1, 8, 0] [(1, .int (zI x1)), (2, .int (zI x2)), (3, .int (zI x3)), (4, .int (zI x4)), (5, .int (zI x5)), (6, .int (zI v101)), (7, .int (zI v102)), (8, .int (zI v74)), (9, .int (zI (v103 + 1)))] rfl (ih_c81_16 v101 v102 (v103 + 1) (by omega) (by omega) (by omega) (by omega))
                      · skip
                        refine j_iconst hx dX12_film_114 ?_
                        refine j_goto hx 119 dX12_film_115 rfl ?_
                        refine j_iadd hx (r := v102 + 1) dX12_film_119 rfl ?_
                        refine j_norm (fun v111 f112 f113 f114 => ?_)
                        refine j_istore hx [(7, .int (zI v111)), (6, .int (zI v101)), (1, .int (zI x1)), (2, .int (zI x2)), (3, .int (zI x3)), (4, .int (zI x4)), (5, .int (zI x5)), (8, .int (zI v74)), (9, .int (zI v103))] dX12_film_120 (by decide) rfl ?_
                        refine j_iincN hx 8 (fun v115 => [(9, .int (zI v115)), (7, .int (zI v111)), (6, .int (zI v101)), (1, .int (zI x1)), (2, .int (zI x2)), (3, .int (zI x3)), (4, .int (zI x4)), (5, .int (zI x5)), (8, .int (zI v74))]) dX12_film_122 rfl (by decide) (fun _ => rfl) (fun v115 f116 f117 f118 => ?_)
                        refine j_goto hx 81 dX12_film_125 rfl ?_
                        exact j_sub [3, 4, 5, 6, 7, 2, 1, 8, 0] [(1, .int (zI x1)), (2, .int (zI x2)), (3, .int (zI x3)), (4, .int (zI x4)), (5, .int (zI x5)), (6, .int (zI v101)), (7, .int (zI v111)), (8, .int (zI v74)), (9, .int (zI v115))] rfl (ih_c81_16 v101 v111 v115 (by omega) (by omega) (by omega) (by omega))
                    · skip
                      refine j_iconst hx dX12_film_97 ?_
                      refine j_goto hx 102 dX12_film_98 rfl ?_
                      refine j_iadd hx (r := v101 + 1) dX12_film_102 rfl ?_
                      refine j_norm (fun v119 f120 f121 f122 => ?_)
                      refine j_istore hx [(6, .int (zI v119)), (1, .int (zI x1)), (2, .int (zI x2)), (3, .int (zI x3)), (4, .int (zI x4)), (5, .int (zI x5)), (7, .int (zI v102)), (8, .int (zI v74)), (9, .int (zI v103))] dX12_film_103 (by decide) rfl ?_
                      refine j_iload hx 6 dX12_film_105 rfl ?_
                      refine j_iload hx 7 dX12_film_107 rfl ?_
                      refine j_iload hx 8 dX12_film_109 rfl ?_
                      refine j_icmp_ne hx 118 dX12_film_111 rfl (by omega) (by omega) (fun h123 => ?_) (fun h123 => ?_)
                      · skip
                        refine j_iconst hx dX12_film_118 ?_
                        refine j_iadd hx (r := v102) dX12_film_119 (by omega) ?_
                        refine j_istore hx [(7, .int (zI v102)), (6, .int (zI v119)), (1, .int (zI x1)), (2, .int (zI x2)), (3, .int (zI x3)), (4, .int (zI x4)), (5, .int (zI x5)), (8, .int (zI v74)), (9, .int (zI v103))] dX12_film_120 (by decide) rfl ?_
                        refine j_iincN hx 8 (fun v124 => [(9, .int (zI v124)), (7, .int (zI v102)), (6, .int (zI v119)), (1, .int (zI x1)), (2, .int (zI x2)), (3, .int (zI x3)), (4, .int (zI x4)), (5, .int (zI x5)), (8, .int (zI v74))]) dX12_film_122 rfl (by decide) (fun _ => rfl) (fun v124 f125 f126 f127 => ?_)
                        refine j_goto hx 81 dX12_film_125 rfl ?_
                        exact j_sub [3, 4, 5, 6, 7, 2, 1, 8, 0] [(1, .int (zI x1)), (2, .int (zI x2)), (3, .int (zI x3)), (4, .int (zI x4)), (5, .int (zI x5)), (6, .int (zI v119)), (7, .int (zI v102)), (8, .int (zI v74)), (9, .int (zI v124))] rfl (ih_c81_16 v119 v102 v124 (by omega) (by omega) (by omega) (by omega))
                      · skip
                        refine j_iconst hx dX12_film_114 ?_
                        refine j_goto hx 119 dX12_film_115 rfl ?_
                        refine j_iadd hx (r := v102 + 1) dX12_film_119 rfl ?_
                        refine j_norm (fun v128 f129 f130 f131 => ?_)
                        refine j_istore hx [(7, .int (zI v128)), (6, .int (zI v119)), (1, .int (zI x1)), (2, .int (zI x2)), (3, .int (zI x3)), (4, .int (zI x4)), (5, .int (zI x5)), (8, .int (zI v74)), (9, .int (zI v103))] dX12_film_120 (by decide) rfl ?_
                        refine j_iinc hx 8 [(9, .int (zI (v103 + 1))), (7, .int (zI v128)), (6, .int (zI v119)), (1, .int (zI x1)), (2, .int (zI x2)), (3, .int (zI x3)), (4, .int (zI x4)), (5, .int (zI x5)), (8, .int (zI v74))] dX12_film_122 rfl (by omega) (by decide) rfl ?_
                        refine j_goto hx 81 dX12_film_125 rfl ?_
                        exact j_sub [3, 4, 5, 6, 7, 2, 1, 8, 0] [(1, .int (zI x1)), (2, .int (zI x2)), (3, .int (zI x3)), (4, .int (zI x4)), (5, .int (zI x5)), (6, .int (zI v119)), (7, .int (zI v128)), (8, .int (zI v74)), (9, .int (zI (v103 + 1)))] rfl (ih_c81_16 v119 v128 (v103 + 1) (by omega) (by omega) (by omega) (by omega))
              exact j_sub [1, 2, 3, 4, 5, 6, 7, 8, 0] [(1, .int (zI x1)), (2, .int (zI x2)), (3, .int (zI x3)), (4, .int (zI x4)), (5, .int (zI x5)), (6, .int (zI v72)), (7, .int (zI v73)), (8, .int (zI v74)), (9, .int (zI x3))] rfl (c81_16 (2147483648 * 4) v72 v73 x3 (by omega) (by omega) (by omega) (by omega))
        exact j_sub [4, 5, 6, 7, 8, 2, 1, 0] [(1, .int (zI x1)), (2, .int (zI x2)), (3, .int (zI x3)), (4, .int (zI x4)), (5, .int (zI x5)), (6, .int (zI 0)), (7, .int (zI 0)), (8, .int (zI x1))] rfl (c72_12 (2147483648 * 4) 0 0 x1 (by omega) (by omega) (by omega) (by omega))
      · skip
        refine j_iconst hx dX12_film_61 ?_
        have f132 := zf hS_s11 ha (k := 0) rfl
        exact j_iret hx hq rfl (by decide) (by decide) dX12_film_62 ⟨0, rfl, rfl, hS_s11, (zFr_t (zFr_u zFr_rf e_s1 ha (by decide)) hF_s11 (by decide)), ⟨(by omega), by omega⟩⟩
    · skip
      refine j_iload_n hx 3 dX12_film_21 rfl ?_
      refine j_iconst hx dX12_film_22 ?_
      refine j_iload hx 4 dX12_film_23 rfl ?_
      refine j_callS hx (c_X12_within hst x3 0 x4) lk_RX12_314 [.int (zI x3), .int (zI 0), .int (zI x4)] ⟨rfl, hG, hS_s1, (by omega), (by omega), (by omega)⟩ rfl rfl ⟨by decide, by decide⟩ ⟨by decide, by decide⟩ (k2 := 0) (n2 := 0) rfl rfl (Nat.le_of_ble_eq_true rfl) dX12_film_25 (kIP (fun v133 q134 => ?_))
      refine j_if_eq hx 52 dX12_film_28 rfl (by omega) (fun h135 => ?_) (fun h135 => ?_)
      · skip
        refine j_iconst hx dX12_film_52 ?_
        refine j_iconst hx dX12_film_53 ?_
        refine j_iconst hx dX12_film_54 ?_
        refine j_callV hx hG (c_X12_may hst a 0 1 1) lk_RX12_240 ha (by decide) rfl rfl rfl rfl [.int (zI 0), .int (zI 1), .int (zI 1)] ⟨rfl, hG, hS_s1, ha, (by omega), (by omega), (by omega)⟩ rfl rfl ⟨by decide, by decide⟩ ⟨by decide, by decide⟩ (k2 := 0) (n2 := 0) rfl rfl (Nat.le_of_ble_eq_true rfl) dX12_film_55 (kIM (fun v136 s20 hS_s20 hF_s20 q137 => ?_))
        refine j_if_ne hx 63 dX12_film_58 rfl (by omega) (fun h138 => ?_) (fun h138 => ?_)
        · skip
          refine j_iconst hx dX12_film_63 ?_
          refine j_istore hx [(6, .int (zI 0)), (0, .ref a), (1, .int (zI x1)), (2, .int (zI x2)), (3, .int (zI x3)), (4, .int (zI x4)), (5, .int (zI x5))] dX12_film_64 (by decide) rfl ?_
          refine j_iconst hx dX12_film_66 ?_
          refine j_istore hx [(7, .int (zI 0)), (6, .int (zI 0)), (0, .ref a), (1, .int (zI x1)), (2, .int (zI x2)), (3, .int (zI x3)), (4, .int (zI x4)), (5, .int (zI x5))] dX12_film_67 (by decide) rfl ?_
          refine j_iload_n hx 3 dX12_film_69 rfl ?_
          refine j_istore hx [(8, .int (zI x1)), (7, .int (zI 0)), (6, .int (zI 0)), (0, .ref a), (1, .int (zI x1)), (2, .int (zI x2)), (3, .int (zI x3)), (4, .int (zI x4)), (5, .int (zI x5))] dX12_film_70 (by decide) rfl ?_
          have c72_21 : ∀ (m_c72_21 : Nat) (v139 : Int) (v140 : Int) (v141 : Int), 2147483648 - v141 < m_c72_21 → ((-2147483648) ≤ v139 ∧ v139 ≤ 2147483647) → ((-2147483648) ≤ v140 ∧ v140 ≤ 2147483647) → ((-2147483648) ≤ v141 ∧ v141 ≤ 2147483647) → JJ X E 10 G s20 0 0 [(1, .int (zI x1)), (2, .int (zI x2)), (3, .int (zI x3)), (4, .int (zI x4)), (5, .int (zI x5)), (6, .int (zI v139)), (7, .int (zI v140)), (8, .int (zI v141))] 72 [] := by
            intro m_c72_21
            induction m_c72_21 with
            | zero => intro v139 v140 v141 hm_c72_21 f22 f23 f24; exfalso; omega
            | succ m_c72_21 ih_c72_21 => 
              intro v139 v140 v141 hm_c72_21 f22 f23 f24
              refine j_iload hx 7 dX12_film_72 rfl ?_
              refine j_iload_n hx 1 dX12_film_74 rfl ?_
              refine j_icmp_gt hx 134 dX12_film_75 rfl (by omega) (by omega) (fun h142 => ?_) (fun h142 => ?_)
              · skip
                refine j_iload hx 4 dX12_film_134 rfl ?_
                refine j_if_ne hx 144 dX12_film_136 rfl (by omega) (fun h143 => ?_) (fun h143 => ?_)
                · skip
                  refine j_iload hx 4 dX12_film_144 rfl ?_
                  refine j_iconst hx dX12_film_146 ?_
                  refine j_icmp_ne hx 155 dX12_film_147 rfl (by omega) ⟨by decide, by decide⟩ (fun h144 => ?_) (fun h144 => ?_)
                  · skip
                    refine j_iload_n hx 1 dX12_film_155 rfl ?_
                    refine j_iload_n hx 0 dX12_film_156 rfl ?_
                    refine j_isub hx (r := x2 - x1) dX12_film_157 rfl ?_
                    refine j_norm (fun v145 f146 f147 f148 => ?_)
                    refine j_iconst hx dX12_film_158 ?_
                    refine j_iadd hx (r := v145 + 1) dX12_film_159 rfl ?_
                    refine j_norm (fun v149 f150 f151 f152 => ?_)
                    refine j_iload hx 3 dX12_film_160 rfl ?_
                    refine j_iload_n hx 2 dX12_film_162 rfl ?_
                    refine j_isub hx (r := x4 - x3) dX12_film_163 rfl ?_
                    refine j_norm (fun v153 f154 f155 f156 => ?_)
                    refine j_iconst hx dX12_film_164 ?_
                    refine j_iadd hx (r := v153 + 1) dX12_film_165 rfl ?_
                    refine j_norm (fun v157 f158 f159 f160 => ?_)
                    refine j_imul hx (r := (v149 * v157)) dX12_film_166 rfl ?_
                    refine j_norm (fun v161 f162 f163 f164 => ?_)
                    have f165 := zf hS_s20 ha (k := 0) rfl
                    exact j_iret hx hq rfl (by decide) (by decide) dX12_film_167 ⟨v161, rfl, rfl, hS_s20, (zFr_t (zFr_u zFr_rf e_s1 ha (by decide)) hF_s20 (by decide)), ⟨(by omega), by omega⟩⟩
                  · skip
                    refine j_iload hx 6 dX12_film_150 rfl ?_
                    refine j_goto hx 167 dX12_film_152 rfl ?_
                    have f166 := zf hS_s20 ha (k := 0) rfl
                    exact j_iret hx hq rfl (by decide) (by decide) dX12_film_167 ⟨v140, rfl, rfl, hS_s20, (zFr_t (zFr_u zFr_rf e_s1 ha (by decide)) hF_s20 (by decide)), ⟨(by omega), by omega⟩⟩
                · skip
                  refine j_iload hx 5 dX12_film_139 rfl ?_
                  refine j_goto hx 167 dX12_film_141 rfl ?_
                  have f167 := zf hS_s20 ha (k := 0) rfl
                  exact j_iret hx hq rfl (by decide) (by decide) dX12_film_167 ⟨v139, rfl, rfl, hS_s20, (zFr_t (zFr_u zFr_rf e_s1 ha (by decide)) hF_s20 (by decide)), ⟨(by omega), by omega⟩⟩
              · skip
                refine j_iload_n hx 2 dX12_film_78 rfl ?_
                refine j_istore hx [(9, .int (zI x3)), (1, .int (zI x1)), (2, .int (zI x2)), (3, .int (zI x3)), (4, .int (zI x4)), (5, .int (zI x5)), (6, .int (zI v139)), (7, .int (zI v140)), (8, .int (zI v141))] dX12_film_79 (by decide) rfl ?_
                have c81_25 : ∀ (m_c81_25 : Nat) (v168 : Int) (v169 : Int) (v170 : Int), 2147483648 - v170 < m_c81_25 → ((-2147483648) ≤ v168 ∧ v168 ≤ 2147483647) → ((-2147483648) ≤ v169 ∧ v169 ≤ 2147483647) → ((-2147483648) ≤ v170 ∧ v170 ≤ 2147483647) → JJ X E 10 G s20 0 0 [(1, .int (zI x1)), (2, .int (zI x2)), (3, .int (zI x3)), (4, .int (zI x4)), (5, .int (zI x5)), (6, .int (zI v168)), (7, .int (zI v169)), (8, .int (zI v141)), (9, .int (zI v170))] 81 [] := by
                  intro m_c81_25
                  induction m_c81_25 with
                  | zero => intro v168 v169 v170 hm_c81_25 f26 f27 f28; exfalso; omega
                  | succ m_c81_25 ih_c81_25 => 
                    intro v168 v169 v170 hm_c81_25 f26 f27 f28
                    refine j_iload hx 8 dX12_film_81 rfl ?_
                    refine j_iload hx 3 dX12_film_83 rfl ?_
                    refine j_icmp_gt hx 128 dX12_film_85 rfl (by omega) (by omega) (fun h171 => ?_) (fun h171 => ?_)
                    · skip
                      refine j_iinc hx 7 [(8, .int (zI (v141 + 1))), (1, .int (zI x1)), (2, .int (zI x2)), (3, .int (zI x3)), (4, .int (zI x4)), (5, .int (zI x5)), (6, .int (zI v168)), (7, .int (zI v169)), (9, .int (zI v170))] dX12_film_128 rfl (by omega) (by decide) rfl ?_
                      refine j_goto hx 72 dX12_film_131 rfl ?_
                      exact j_sub [1, 2, 3, 4, 5, 6, 7, 0] [(1, .int (zI x1)), (2, .int (zI x2)), (3, .int (zI x3)), (4, .int (zI x4)), (5, .int (zI x5)), (6, .int (zI v168)), (7, .int (zI v169)), (8, .int (zI (v141 + 1)))] rfl (ih_c72_21 v168 v169 (v141 + 1) (by omega) (by omega) (by omega) (by omega))
                    · skip
                      refine j_iload hx 5 dX12_film_88 rfl ?_
                      refine j_iload hx 7 dX12_film_90 rfl ?_
                      refine j_iload hx 8 dX12_film_92 rfl ?_
                      refine j_icmp_ge hx 101 dX12_film_94 rfl (by omega) (by omega) (fun h172 => ?_) (fun h172 => ?_)
                      · skip
                        refine j_iconst hx dX12_film_101 ?_
                        refine j_iadd hx (r := v168) dX12_film_102 (by omega) ?_
                        refine j_istore hx [(6, .int (zI v168)), (1, .int (zI x1)), (2, .int (zI x2)), (3, .int (zI x3)), (4, .int (zI x4)), (5, .int (zI x5)), (7, .int (zI v169)), (8, .int (zI v141)), (9, .int (zI v170))] dX12_film_103 (by decide) rfl ?_
                        refine j_iload hx 6 dX12_film_105 rfl ?_
                        refine j_iload hx 7 dX12_film_107 rfl ?_
                        refine j_iload hx 8 dX12_film_109 rfl ?_
                        refine j_icmp_ne hx 118 dX12_film_111 rfl (by omega) (by omega) (fun h173 => ?_) (fun h173 => ?_)
                        · skip
                          refine j_iconst hx dX12_film_118 ?_
                          refine j_iadd hx (r := v169) dX12_film_119 (by omega) ?_
                          refine j_istore hx [(7, .int (zI v169)), (6, .int (zI v168)), (1, .int (zI x1)), (2, .int (zI x2)), (3, .int (zI x3)), (4, .int (zI x4)), (5, .int (zI x5)), (8, .int (zI v141)), (9, .int (zI v170))] dX12_film_120 (by decide) rfl ?_
                          refine j_iinc hx 8 [(9, .int (zI (v170 + 1))), (7, .int (zI v169)), (6, .int (zI v168)), (1, .int (zI x1)), (2, .int (zI x2)), (3, .int (zI x3)), (4, .int (zI x4)), (5, .int (zI x5)), (8, .int (zI v141))] dX12_film_122 rfl (by omega) (by decide) rfl ?_
                          refine j_goto hx 81 dX12_film_125 rfl ?_
                          exact j_sub [3, 4, 5, 6, 7, 2, 1, 8, 0] [(1, .int (zI x1)), (2, .int (zI x2)), (3, .int (zI x3)), (4, .int (zI x4)), (5, .int (zI x5)), (6, .int (zI v168)), (7, .int (zI v169)), (8, .int (zI v141)), (9, .int (zI (v170 + 1)))] rfl (ih_c81_25 v168 v169 (v170 + 1) (by omega) (by omega) (by omega) (by omega))
                        · skip
                          refine j_iconst hx dX12_film_114 ?_
                          refine j_goto hx 119 dX12_film_115 rfl ?_
                          refine j_iadd hx (r := v169 + 1) dX12_film_119 rfl ?_
                          refine j_norm (fun v174 f175 f176 f177 => ?_)
                          refine j_istore hx [(7, .int (zI v174)), (6, .int (zI v168)), (1, .int (zI x1)), (2, .int (zI x2)), (3, .int (zI x3)), (4, .int (zI x4)), (5, .int (zI x5)), (8, .int (zI v141)), (9, .int (zI v170))] dX12_film_120 (by decide) rfl ?_
                          refine j_iinc hx 8 [(9, .int (zI (v170 + 1))), (7, .int (zI v174)), (6, .int (zI v168)), (1, .int (zI x1)), (2, .int (zI x2)), (3, .int (zI x3)), (4, .int (zI x4)), (5, .int (zI x5)), (8, .int (zI v141))] dX12_film_122 rfl (by omega) (by decide) rfl ?_
                          refine j_goto hx 81 dX12_film_125 rfl ?_
                          exact j_sub [3, 4, 5, 6, 7, 2, 1, 8, 0] [(1, .int (zI x1)), (2, .int (zI x2)), (3, .int (zI x3)), (4, .int (zI x4)), (5, .int (zI x5)), (6, .int (zI v168)), (7, .int (zI v174)), (8, .int (zI v141)), (9, .int (zI (v170 + 1)))] rfl (ih_c81_25 v168 v174 (v170 + 1) (by omega) (by omega) (by omega) (by omega))
                      · skip
                        refine j_iconst hx dX12_film_97 ?_
                        refine j_goto hx 102 dX12_film_98 rfl ?_
                        refine j_iadd hx (r := v168 + 1) dX12_film_102 rfl ?_
                        refine j_norm (fun v178 f179 f180 f181 => ?_)
                        refine j_istore hx [(6, .int (zI v178)), (1, .int (zI x1)), (2, .int (zI x2)), (3, .int (zI x3)), (4, .int (zI x4)), (5, .int (zI x5)), (7, .int (zI v169)), (8, .int (zI v141)), (9, .int (zI v170))] dX12_film_103 (by decide) rfl ?_
                        refine j_iload hx 6 dX12_film_105 rfl ?_
                        refine j_iload hx 7 dX12_film_107 rfl ?_
                        refine j_iload hx 8 dX12_film_109 rfl ?_
                        refine j_icmp_ne hx 118 dX12_film_111 rfl (by omega) (by omega) (fun h182 => ?_) (fun h182 => ?_)
                        · skip
                          refine j_iconst hx dX12_film_118 ?_
                          refine j_iadd hx (r := v169) dX12_film_119 (by omega) ?_
                          refine j_istore hx [(7, .int (zI v169)), (6, .int (zI v178)), (1, .int (zI x1)), (2, .int (zI x2)), (3, .int (zI x3)), (4, .int (zI x4)), (5, .int (zI x5)), (8, .int (zI v141)), (9, .int (zI v170))] dX12_film_120 (by decide) rfl ?_
                          refine j_iincN hx 8 (fun v183 => [(9, .int (zI v183)), (7, .int (zI v169)), (6, .int (zI v178)), (1, .int (zI x1)), (2, .int (zI x2)), (3, .int (zI x3)), (4, .int (zI x4)), (5, .int (zI x5)), (8, .int (zI v141))]) dX12_film_122 rfl (by decide) (fun _ => rfl) (fun v183 f184 f185 f186 => ?_)
                          refine j_goto hx 81 dX12_film_125 rfl ?_
                          exact j_sub [3, 4, 5, 6, 7, 2, 1, 8, 0] [(1, .int (zI x1)), (2, .int (zI x2)), (3, .int (zI x3)), (4, .int (zI x4)), (5, .int (zI x5)), (6, .int (zI v178)), (7, .int (zI v169)), (8, .int (zI v141)), (9, .int (zI v183))] rfl (ih_c81_25 v178 v169 v183 (by omega) (by omega) (by omega) (by omega))
                        · skip
                          refine j_iconst hx dX12_film_114 ?_
                          refine j_goto hx 119 dX12_film_115 rfl ?_
                          refine j_iadd hx (r := v169 + 1) dX12_film_119 rfl ?_
                          refine j_norm (fun v187 f188 f189 f190 => ?_)
                          refine j_istore hx [(7, .int (zI v187)), (6, .int (zI v178)), (1, .int (zI x1)), (2, .int (zI x2)), (3, .int (zI x3)), (4, .int (zI x4)), (5, .int (zI x5)), (8, .int (zI v141)), (9, .int (zI v170))] dX12_film_120 (by decide) rfl ?_
                          refine j_iinc hx 8 [(9, .int (zI (v170 + 1))), (7, .int (zI v187)), (6, .int (zI v178)), (1, .int (zI x1)), (2, .int (zI x2)), (3, .int (zI x3)), (4, .int (zI x4)), (5, .int (zI x5)), (8, .int (zI v141))] dX12_film_122 rfl (by omega) (by decide) rfl ?_
                          refine j_goto hx 81 dX12_film_125 rfl ?_
                          exact j_sub [3, 4, 5, 6, 7, 2, 1, 8, 0] [(1, .int (zI x1)), (2, .int (zI x2)), (3, .int (zI x3)), (4, .int (zI x4)), (5, .int (zI x5)), (6, .int (zI v178)), (7, .int (zI v187)), (8, .int (zI v141)), (9, .int (zI (v170 + 1)))] rfl (ih_c81_25 v178 v187 (v170 + 1) (by omega) (by omega) (by omega) (by omega))
                exact j_sub [1, 2, 3, 4, 5, 6, 7, 8, 0] [(1, .int (zI x1)), (2, .int (zI x2)), (3, .int (zI x3)), (4, .int (zI x4)), (5, .int (zI x5)), (6, .int (zI v139)), (7, .int (zI v140)), (8, .int (zI v141)), (9, .int (zI x3))] rfl (c81_25 (2147483648 * 4) v139 v140 x3 (by omega) (by omega) (by omega) (by omega))
          exact j_sub [4, 5, 6, 7, 8, 2, 1, 0] [(1, .int (zI x1)), (2, .int (zI x2)), (3, .int (zI x3)), (4, .int (zI x4)), (5, .int (zI x5)), (6, .int (zI 0)), (7, .int (zI 0)), (8, .int (zI x1))] rfl (c72_21 (2147483648 * 4) 0 0 x1 (by omega) (by omega) (by omega) (by omega))
        · skip
          refine j_iconst hx dX12_film_61 ?_
          have f191 := zf hS_s20 ha (k := 0) rfl
          exact j_iret hx hq rfl (by decide) (by decide) dX12_film_62 ⟨0, rfl, rfl, hS_s20, (zFr_t (zFr_u zFr_rf e_s1 ha (by decide)) hF_s20 (by decide)), ⟨(by omega), by omega⟩⟩
      · skip
        refine j_iload hx 4 dX12_film_31 rfl ?_
        refine j_bipush hx dX12_film_33 rfl ?_
        refine j_icmp_gt hx 52 dX12_film_35 rfl (by omega) ⟨by decide, by decide⟩ (fun h192 => ?_) (fun h192 => ?_)
        · skip
          refine j_iconst hx dX12_film_52 ?_
          refine j_iconst hx dX12_film_53 ?_
          refine j_iconst hx dX12_film_54 ?_
          refine j_callV hx hG (c_X12_may hst a 0 1 1) lk_RX12_240 ha (by decide) rfl rfl rfl rfl [.int (zI 0), .int (zI 1), .int (zI 1)] ⟨rfl, hG, hS_s1, ha, (by omega), (by omega), (by omega)⟩ rfl rfl ⟨by decide, by decide⟩ ⟨by decide, by decide⟩ (k2 := 0) (n2 := 0) rfl rfl (Nat.le_of_ble_eq_true rfl) dX12_film_55 (kIM (fun v193 s29 hS_s29 hF_s29 q194 => ?_))
          refine j_if_ne hx 63 dX12_film_58 rfl (by omega) (fun h195 => ?_) (fun h195 => ?_)
          · skip
            refine j_iconst hx dX12_film_63 ?_
            refine j_istore hx [(6, .int (zI 0)), (0, .ref a), (1, .int (zI x1)), (2, .int (zI x2)), (3, .int (zI x3)), (4, .int (zI x4)), (5, .int (zI x5))] dX12_film_64 (by decide) rfl ?_
            refine j_iconst hx dX12_film_66 ?_
            refine j_istore hx [(7, .int (zI 0)), (6, .int (zI 0)), (0, .ref a), (1, .int (zI x1)), (2, .int (zI x2)), (3, .int (zI x3)), (4, .int (zI x4)), (5, .int (zI x5))] dX12_film_67 (by decide) rfl ?_
            refine j_iload_n hx 3 dX12_film_69 rfl ?_
            refine j_istore hx [(8, .int (zI x1)), (7, .int (zI 0)), (6, .int (zI 0)), (0, .ref a), (1, .int (zI x1)), (2, .int (zI x2)), (3, .int (zI x3)), (4, .int (zI x4)), (5, .int (zI x5))] dX12_film_70 (by decide) rfl ?_
            have c72_30 : ∀ (m_c72_30 : Nat) (v196 : Int) (v197 : Int) (v198 : Int), 2147483648 - v198 < m_c72_30 → ((-2147483648) ≤ v196 ∧ v196 ≤ 2147483647) → ((-2147483648) ≤ v197 ∧ v197 ≤ 2147483647) → ((-2147483648) ≤ v198 ∧ v198 ≤ 2147483647) → JJ X E 10 G s29 0 0 [(1, .int (zI x1)), (2, .int (zI x2)), (3, .int (zI x3)), (4, .int (zI x4)), (5, .int (zI x5)), (6, .int (zI v196)), (7, .int (zI v197)), (8, .int (zI v198))] 72 [] := by
              intro m_c72_30
              induction m_c72_30 with
              | zero => intro v196 v197 v198 hm_c72_30 f31 f32 f33; exfalso; omega
              | succ m_c72_30 ih_c72_30 => 
                intro v196 v197 v198 hm_c72_30 f31 f32 f33
                refine j_iload hx 7 dX12_film_72 rfl ?_
                refine j_iload_n hx 1 dX12_film_74 rfl ?_
                refine j_icmp_gt hx 134 dX12_film_75 rfl (by omega) (by omega) (fun h199 => ?_) (fun h199 => ?_)
                · skip
                  refine j_iload hx 4 dX12_film_134 rfl ?_
                  refine j_if_ne hx 144 dX12_film_136 rfl (by omega) (fun h200 => ?_) (fun h200 => ?_)
                  · skip
                    refine j_iload hx 4 dX12_film_144 rfl ?_
                    refine j_iconst hx dX12_film_146 ?_
                    refine j_icmp_ne hx 155 dX12_film_147 rfl (by omega) ⟨by decide, by decide⟩ (fun h201 => ?_) (fun h201 => ?_)
                    · skip
                      refine j_iload_n hx 1 dX12_film_155 rfl ?_
                      refine j_iload_n hx 0 dX12_film_156 rfl ?_
                      refine j_isub hx (r := x2 - x1) dX12_film_157 rfl ?_
                      refine j_norm (fun v202 f203 f204 f205 => ?_)
                      refine j_iconst hx dX12_film_158 ?_
                      refine j_iadd hx (r := v202 + 1) dX12_film_159 rfl ?_
                      refine j_norm (fun v206 f207 f208 f209 => ?_)
                      refine j_iload hx 3 dX12_film_160 rfl ?_
                      refine j_iload_n hx 2 dX12_film_162 rfl ?_
                      refine j_isub hx (r := x4 - x3) dX12_film_163 rfl ?_
                      refine j_norm (fun v210 f211 f212 f213 => ?_)
                      refine j_iconst hx dX12_film_164 ?_
                      refine j_iadd hx (r := v210 + 1) dX12_film_165 rfl ?_
                      refine j_norm (fun v214 f215 f216 f217 => ?_)
                      refine j_imul hx (r := (v206 * v214)) dX12_film_166 rfl ?_
                      refine j_norm (fun v218 f219 f220 f221 => ?_)
                      have f222 := zf hS_s29 ha (k := 0) rfl
                      exact j_iret hx hq rfl (by decide) (by decide) dX12_film_167 ⟨v218, rfl, rfl, hS_s29, (zFr_t (zFr_u zFr_rf e_s1 ha (by decide)) hF_s29 (by decide)), ⟨(by omega), by omega⟩⟩
                    · skip
                      refine j_iload hx 6 dX12_film_150 rfl ?_
                      refine j_goto hx 167 dX12_film_152 rfl ?_
                      have f223 := zf hS_s29 ha (k := 0) rfl
                      exact j_iret hx hq rfl (by decide) (by decide) dX12_film_167 ⟨v197, rfl, rfl, hS_s29, (zFr_t (zFr_u zFr_rf e_s1 ha (by decide)) hF_s29 (by decide)), ⟨(by omega), by omega⟩⟩
                  · skip
                    refine j_iload hx 5 dX12_film_139 rfl ?_
                    refine j_goto hx 167 dX12_film_141 rfl ?_
                    have f224 := zf hS_s29 ha (k := 0) rfl
                    exact j_iret hx hq rfl (by decide) (by decide) dX12_film_167 ⟨v196, rfl, rfl, hS_s29, (zFr_t (zFr_u zFr_rf e_s1 ha (by decide)) hF_s29 (by decide)), ⟨(by omega), by omega⟩⟩
                · skip
                  refine j_iload_n hx 2 dX12_film_78 rfl ?_
                  refine j_istore hx [(9, .int (zI x3)), (1, .int (zI x1)), (2, .int (zI x2)), (3, .int (zI x3)), (4, .int (zI x4)), (5, .int (zI x5)), (6, .int (zI v196)), (7, .int (zI v197)), (8, .int (zI v198))] dX12_film_79 (by decide) rfl ?_
                  have c81_34 : ∀ (m_c81_34 : Nat) (v225 : Int) (v226 : Int) (v227 : Int), 2147483648 - v227 < m_c81_34 → ((-2147483648) ≤ v225 ∧ v225 ≤ 2147483647) → ((-2147483648) ≤ v226 ∧ v226 ≤ 2147483647) → ((-2147483648) ≤ v227 ∧ v227 ≤ 2147483647) → JJ X E 10 G s29 0 0 [(1, .int (zI x1)), (2, .int (zI x2)), (3, .int (zI x3)), (4, .int (zI x4)), (5, .int (zI x5)), (6, .int (zI v225)), (7, .int (zI v226)), (8, .int (zI v198)), (9, .int (zI v227))] 81 [] := by
                    intro m_c81_34
                    induction m_c81_34 with
                    | zero => intro v225 v226 v227 hm_c81_34 f35 f36 f37; exfalso; omega
                    | succ m_c81_34 ih_c81_34 => 
                      intro v225 v226 v227 hm_c81_34 f35 f36 f37
                      refine j_iload hx 8 dX12_film_81 rfl ?_
                      refine j_iload hx 3 dX12_film_83 rfl ?_
                      refine j_icmp_gt hx 128 dX12_film_85 rfl (by omega) (by omega) (fun h228 => ?_) (fun h228 => ?_)
                      · skip
                        refine j_iinc hx 7 [(8, .int (zI (v198 + 1))), (1, .int (zI x1)), (2, .int (zI x2)), (3, .int (zI x3)), (4, .int (zI x4)), (5, .int (zI x5)), (6, .int (zI v225)), (7, .int (zI v226)), (9, .int (zI v227))] dX12_film_128 rfl (by omega) (by decide) rfl ?_
                        refine j_goto hx 72 dX12_film_131 rfl ?_
                        exact j_sub [1, 2, 3, 4, 5, 6, 7, 0] [(1, .int (zI x1)), (2, .int (zI x2)), (3, .int (zI x3)), (4, .int (zI x4)), (5, .int (zI x5)), (6, .int (zI v225)), (7, .int (zI v226)), (8, .int (zI (v198 + 1)))] rfl (ih_c72_30 v225 v226 (v198 + 1) (by omega) (by omega) (by omega) (by omega))
                      · skip
                        refine j_iload hx 5 dX12_film_88 rfl ?_
                        refine j_iload hx 7 dX12_film_90 rfl ?_
                        refine j_iload hx 8 dX12_film_92 rfl ?_
                        refine j_icmp_ge hx 101 dX12_film_94 rfl (by omega) (by omega) (fun h229 => ?_) (fun h229 => ?_)
                        · skip
                          refine j_iconst hx dX12_film_101 ?_
                          refine j_iadd hx (r := v225) dX12_film_102 (by omega) ?_
                          refine j_istore hx [(6, .int (zI v225)), (1, .int (zI x1)), (2, .int (zI x2)), (3, .int (zI x3)), (4, .int (zI x4)), (5, .int (zI x5)), (7, .int (zI v226)), (8, .int (zI v198)), (9, .int (zI v227))] dX12_film_103 (by decide) rfl ?_
                          refine j_iload hx 6 dX12_film_105 rfl ?_
                          refine j_iload hx 7 dX12_film_107 rfl ?_
                          refine j_iload hx 8 dX12_film_109 rfl ?_
                          refine j_icmp_ne hx 118 dX12_film_111 rfl (by omega) (by omega) (fun h230 => ?_) (fun h230 => ?_)
                          · skip
                            refine j_iconst hx dX12_film_118 ?_
                            refine j_iadd hx (r := v226) dX12_film_119 (by omega) ?_
                            refine j_istore hx [(7, .int (zI v226)), (6, .int (zI v225)), (1, .int (zI x1)), (2, .int (zI x2)), (3, .int (zI x3)), (4, .int (zI x4)), (5, .int (zI x5)), (8, .int (zI v198)), (9, .int (zI v227))] dX12_film_120 (by decide) rfl ?_
                            refine j_iinc hx 8 [(9, .int (zI (v227 + 1))), (7, .int (zI v226)), (6, .int (zI v225)), (1, .int (zI x1)), (2, .int (zI x2)), (3, .int (zI x3)), (4, .int (zI x4)), (5, .int (zI x5)), (8, .int (zI v198))] dX12_film_122 rfl (by omega) (by decide) rfl ?_
                            refine j_goto hx 81 dX12_film_125 rfl ?_
                            exact j_sub [3, 4, 5, 6, 7, 2, 1, 8, 0] [(1, .int (zI x1)), (2, .int (zI x2)), (3, .int (zI x3)), (4, .int (zI x4)), (5, .int (zI x5)), (6, .int (zI v225)), (7, .int (zI v226)), (8, .int (zI v198)), (9, .int (zI (v227 + 1)))] rfl (ih_c81_34 v225 v226 (v227 + 1) (by omega) (by omega) (by omega) (by omega))
                          · skip
                            refine j_iconst hx dX12_film_114 ?_
                            refine j_goto hx 119 dX12_film_115 rfl ?_
                            refine j_iadd hx (r := v226 + 1) dX12_film_119 rfl ?_
                            refine j_norm (fun v231 f232 f233 f234 => ?_)
                            refine j_istore hx [(7, .int (zI v231)), (6, .int (zI v225)), (1, .int (zI x1)), (2, .int (zI x2)), (3, .int (zI x3)), (4, .int (zI x4)), (5, .int (zI x5)), (8, .int (zI v198)), (9, .int (zI v227))] dX12_film_120 (by decide) rfl ?_
                            refine j_iinc hx 8 [(9, .int (zI (v227 + 1))), (7, .int (zI v231)), (6, .int (zI v225)), (1, .int (zI x1)), (2, .int (zI x2)), (3, .int (zI x3)), (4, .int (zI x4)), (5, .int (zI x5)), (8, .int (zI v198))] dX12_film_122 rfl (by omega) (by decide) rfl ?_
                            refine j_goto hx 81 dX12_film_125 rfl ?_
                            exact j_sub [3, 4, 5, 6, 7, 2, 1, 8, 0] [(1, .int (zI x1)), (2, .int (zI x2)), (3, .int (zI x3)), (4, .int (zI x4)), (5, .int (zI x5)), (6, .int (zI v225)), (7, .int (zI v231)), (8, .int (zI v198)), (9, .int (zI (v227 + 1)))] rfl (ih_c81_34 v225 v231 (v227 + 1) (by omega) (by omega) (by omega) (by omega))
                        · skip
                          refine j_iconst hx dX12_film_97 ?_
                          refine j_goto hx 102 dX12_film_98 rfl ?_
                          refine j_iadd hx (r := v225 + 1) dX12_film_102 rfl ?_
                          refine j_norm (fun v235 f236 f237 f238 => ?_)
                          refine j_istore hx [(6, .int (zI v235)), (1, .int (zI x1)), (2, .int (zI x2)), (3, .int (zI x3)), (4, .int (zI x4)), (5, .int (zI x5)), (7, .int (zI v226)), (8, .int (zI v198)), (9, .int (zI v227))] dX12_film_103 (by decide) rfl ?_
                          refine j_iload hx 6 dX12_film_105 rfl ?_
                          refine j_iload hx 7 dX12_film_107 rfl ?_
                          refine j_iload hx 8 dX12_film_109 rfl ?_
                          refine j_icmp_ne hx 118 dX12_film_111 rfl (by omega) (by omega) (fun h239 => ?_) (fun h239 => ?_)
                          · skip
                            refine j_iconst hx dX12_film_118 ?_
                            refine j_iadd hx (r := v226) dX12_film_119 (by omega) ?_
                            refine j_istore hx [(7, .int (zI v226)), (6, .int (zI v235)), (1, .int (zI x1)), (2, .int (zI x2)), (3, .int (zI x3)), (4, .int (zI x4)), (5, .int (zI x5)), (8, .int (zI v198)), (9, .int (zI v227))] dX12_film_120 (by decide) rfl ?_
                            refine j_iincN hx 8 (fun v240 => [(9, .int (zI v240)), (7, .int (zI v226)), (6, .int (zI v235)), (1, .int (zI x1)), (2, .int (zI x2)), (3, .int (zI x3)), (4, .int (zI x4)), (5, .int (zI x5)), (8, .int (zI v198))]) dX12_film_122 rfl (by decide) (fun _ => rfl) (fun v240 f241 f242 f243 => ?_)
                            refine j_goto hx 81 dX12_film_125 rfl ?_
                            exact j_sub [3, 4, 5, 6, 7, 2, 1, 8, 0] [(1, .int (zI x1)), (2, .int (zI x2)), (3, .int (zI x3)), (4, .int (zI x4)), (5, .int (zI x5)), (6, .int (zI v235)), (7, .int (zI v226)), (8, .int (zI v198)), (9, .int (zI v240))] rfl (ih_c81_34 v235 v226 v240 (by omega) (by omega) (by omega) (by omega))
                          · skip
                            refine j_iconst hx dX12_film_114 ?_
                            refine j_goto hx 119 dX12_film_115 rfl ?_
                            refine j_iadd hx (r := v226 + 1) dX12_film_119 rfl ?_
                            refine j_norm (fun v244 f245 f246 f247 => ?_)
                            refine j_istore hx [(7, .int (zI v244)), (6, .int (zI v235)), (1, .int (zI x1)), (2, .int (zI x2)), (3, .int (zI x3)), (4, .int (zI x4)), (5, .int (zI x5)), (8, .int (zI v198)), (9, .int (zI v227))] dX12_film_120 (by decide) rfl ?_
                            refine j_iinc hx 8 [(9, .int (zI (v227 + 1))), (7, .int (zI v244)), (6, .int (zI v235)), (1, .int (zI x1)), (2, .int (zI x2)), (3, .int (zI x3)), (4, .int (zI x4)), (5, .int (zI x5)), (8, .int (zI v198))] dX12_film_122 rfl (by omega) (by decide) rfl ?_
                            refine j_goto hx 81 dX12_film_125 rfl ?_
                            exact j_sub [3, 4, 5, 6, 7, 2, 1, 8, 0] [(1, .int (zI x1)), (2, .int (zI x2)), (3, .int (zI x3)), (4, .int (zI x4)), (5, .int (zI x5)), (6, .int (zI v235)), (7, .int (zI v244)), (8, .int (zI v198)), (9, .int (zI (v227 + 1)))] rfl (ih_c81_34 v235 v244 (v227 + 1) (by omega) (by omega) (by omega) (by omega))
                  exact j_sub [1, 2, 3, 4, 5, 6, 7, 8, 0] [(1, .int (zI x1)), (2, .int (zI x2)), (3, .int (zI x3)), (4, .int (zI x4)), (5, .int (zI x5)), (6, .int (zI v196)), (7, .int (zI v197)), (8, .int (zI v198)), (9, .int (zI x3))] rfl (c81_34 (2147483648 * 4) v196 v197 x3 (by omega) (by omega) (by omega) (by omega))
            exact j_sub [4, 5, 6, 7, 8, 2, 1, 0] [(1, .int (zI x1)), (2, .int (zI x2)), (3, .int (zI x3)), (4, .int (zI x4)), (5, .int (zI x5)), (6, .int (zI 0)), (7, .int (zI 0)), (8, .int (zI x1))] rfl (c72_30 (2147483648 * 4) 0 0 x1 (by omega) (by omega) (by omega) (by omega))
          · skip
            refine j_iconst hx dX12_film_61 ?_
            have f248 := zf hS_s29 ha (k := 0) rfl
            exact j_iret hx hq rfl (by decide) (by decide) dX12_film_62 ⟨0, rfl, rfl, hS_s29, (zFr_t (zFr_u zFr_rf e_s1 ha (by decide)) hF_s29 (by decide)), ⟨(by omega), by omega⟩⟩
        · skip
          refine j_iload hx 5 dX12_film_38 rfl ?_
          refine j_iconst hx dX12_film_40 ?_
          refine j_iconst hx dX12_film_41 ?_
          refine j_callS hx (c_X12_within hst x5 0 2) lk_RX12_314 [.int (zI x5), .int (zI 0), .int (zI 2)] ⟨rfl, hG, hS_s1, (by omega), (by omega), (by omega)⟩ rfl rfl ⟨by decide, by decide⟩ ⟨by decide, by decide⟩ (k2 := 0) (n2 := 0) rfl rfl (Nat.le_of_ble_eq_true rfl) dX12_film_42 (kIP (fun v249 q250 => ?_))
          refine j_if_eq hx 52 dX12_film_45 rfl (by omega) (fun h251 => ?_) (fun h251 => ?_)
          · skip
            refine j_iconst hx dX12_film_52 ?_
            refine j_iconst hx dX12_film_53 ?_
            refine j_iconst hx dX12_film_54 ?_
            refine j_callV hx hG (c_X12_may hst a 0 1 1) lk_RX12_240 ha (by decide) rfl rfl rfl rfl [.int (zI 0), .int (zI 1), .int (zI 1)] ⟨rfl, hG, hS_s1, ha, (by omega), (by omega), (by omega)⟩ rfl rfl ⟨by decide, by decide⟩ ⟨by decide, by decide⟩ (k2 := 0) (n2 := 0) rfl rfl (Nat.le_of_ble_eq_true rfl) dX12_film_55 (kIM (fun v252 s38 hS_s38 hF_s38 q253 => ?_))
            refine j_if_ne hx 63 dX12_film_58 rfl (by omega) (fun h254 => ?_) (fun h254 => ?_)
            · skip
              refine j_iconst hx dX12_film_63 ?_
              refine j_istore hx [(6, .int (zI 0)), (0, .ref a), (1, .int (zI x1)), (2, .int (zI x2)), (3, .int (zI x3)), (4, .int (zI x4)), (5, .int (zI x5))] dX12_film_64 (by decide) rfl ?_
              refine j_iconst hx dX12_film_66 ?_
              refine j_istore hx [(7, .int (zI 0)), (6, .int (zI 0)), (0, .ref a), (1, .int (zI x1)), (2, .int (zI x2)), (3, .int (zI x3)), (4, .int (zI x4)), (5, .int (zI x5))] dX12_film_67 (by decide) rfl ?_
              refine j_iload_n hx 3 dX12_film_69 rfl ?_
              refine j_istore hx [(8, .int (zI x1)), (7, .int (zI 0)), (6, .int (zI 0)), (0, .ref a), (1, .int (zI x1)), (2, .int (zI x2)), (3, .int (zI x3)), (4, .int (zI x4)), (5, .int (zI x5))] dX12_film_70 (by decide) rfl ?_
              have c72_39 : ∀ (m_c72_39 : Nat) (v255 : Int) (v256 : Int) (v257 : Int), 2147483648 - v257 < m_c72_39 → ((-2147483648) ≤ v255 ∧ v255 ≤ 2147483647) → ((-2147483648) ≤ v256 ∧ v256 ≤ 2147483647) → ((-2147483648) ≤ v257 ∧ v257 ≤ 2147483647) → JJ X E 10 G s38 0 0 [(1, .int (zI x1)), (2, .int (zI x2)), (3, .int (zI x3)), (4, .int (zI x4)), (5, .int (zI x5)), (6, .int (zI v255)), (7, .int (zI v256)), (8, .int (zI v257))] 72 [] := by
                intro m_c72_39
                induction m_c72_39 with
                | zero => intro v255 v256 v257 hm_c72_39 f40 f41 f42; exfalso; omega
                | succ m_c72_39 ih_c72_39 => 
                  intro v255 v256 v257 hm_c72_39 f40 f41 f42
                  refine j_iload hx 7 dX12_film_72 rfl ?_
                  refine j_iload_n hx 1 dX12_film_74 rfl ?_
                  refine j_icmp_gt hx 134 dX12_film_75 rfl (by omega) (by omega) (fun h258 => ?_) (fun h258 => ?_)
                  · skip
                    refine j_iload hx 4 dX12_film_134 rfl ?_
                    refine j_if_ne hx 144 dX12_film_136 rfl (by omega) (fun h259 => ?_) (fun h259 => ?_)
                    · skip
                      refine j_iload hx 4 dX12_film_144 rfl ?_
                      refine j_iconst hx dX12_film_146 ?_
                      refine j_icmp_ne hx 155 dX12_film_147 rfl (by omega) ⟨by decide, by decide⟩ (fun h260 => ?_) (fun h260 => ?_)
                      · skip
                        refine j_iload_n hx 1 dX12_film_155 rfl ?_
                        refine j_iload_n hx 0 dX12_film_156 rfl ?_
                        refine j_isub hx (r := x2 - x1) dX12_film_157 rfl ?_
                        refine j_norm (fun v261 f262 f263 f264 => ?_)
                        refine j_iconst hx dX12_film_158 ?_
                        refine j_iadd hx (r := v261 + 1) dX12_film_159 rfl ?_
                        refine j_norm (fun v265 f266 f267 f268 => ?_)
                        refine j_iload hx 3 dX12_film_160 rfl ?_
                        refine j_iload_n hx 2 dX12_film_162 rfl ?_
                        refine j_isub hx (r := x4 - x3) dX12_film_163 rfl ?_
                        refine j_norm (fun v269 f270 f271 f272 => ?_)
                        refine j_iconst hx dX12_film_164 ?_
                        refine j_iadd hx (r := v269 + 1) dX12_film_165 rfl ?_
                        refine j_norm (fun v273 f274 f275 f276 => ?_)
                        refine j_imul hx (r := (v265 * v273)) dX12_film_166 rfl ?_
                        refine j_norm (fun v277 f278 f279 f280 => ?_)
                        have f281 := zf hS_s38 ha (k := 0) rfl
                        exact j_iret hx hq rfl (by decide) (by decide) dX12_film_167 ⟨v277, rfl, rfl, hS_s38, (zFr_t (zFr_u zFr_rf e_s1 ha (by decide)) hF_s38 (by decide)), ⟨(by omega), by omega⟩⟩
                      · skip
                        refine j_iload hx 6 dX12_film_150 rfl ?_
                        refine j_goto hx 167 dX12_film_152 rfl ?_
                        have f282 := zf hS_s38 ha (k := 0) rfl
                        exact j_iret hx hq rfl (by decide) (by decide) dX12_film_167 ⟨v256, rfl, rfl, hS_s38, (zFr_t (zFr_u zFr_rf e_s1 ha (by decide)) hF_s38 (by decide)), ⟨(by omega), by omega⟩⟩
                    · skip
                      refine j_iload hx 5 dX12_film_139 rfl ?_
                      refine j_goto hx 167 dX12_film_141 rfl ?_
                      have f283 := zf hS_s38 ha (k := 0) rfl
                      exact j_iret hx hq rfl (by decide) (by decide) dX12_film_167 ⟨v255, rfl, rfl, hS_s38, (zFr_t (zFr_u zFr_rf e_s1 ha (by decide)) hF_s38 (by decide)), ⟨(by omega), by omega⟩⟩
                  · skip
                    refine j_iload_n hx 2 dX12_film_78 rfl ?_
                    refine j_istore hx [(9, .int (zI x3)), (1, .int (zI x1)), (2, .int (zI x2)), (3, .int (zI x3)), (4, .int (zI x4)), (5, .int (zI x5)), (6, .int (zI v255)), (7, .int (zI v256)), (8, .int (zI v257))] dX12_film_79 (by decide) rfl ?_
                    have c81_43 : ∀ (m_c81_43 : Nat) (v284 : Int) (v285 : Int) (v286 : Int), 2147483648 - v286 < m_c81_43 → ((-2147483648) ≤ v284 ∧ v284 ≤ 2147483647) → ((-2147483648) ≤ v285 ∧ v285 ≤ 2147483647) → ((-2147483648) ≤ v286 ∧ v286 ≤ 2147483647) → JJ X E 10 G s38 0 0 [(1, .int (zI x1)), (2, .int (zI x2)), (3, .int (zI x3)), (4, .int (zI x4)), (5, .int (zI x5)), (6, .int (zI v284)), (7, .int (zI v285)), (8, .int (zI v257)), (9, .int (zI v286))] 81 [] := by
                      intro m_c81_43
                      induction m_c81_43 with
                      | zero => intro v284 v285 v286 hm_c81_43 f44 f45 f46; exfalso; omega
                      | succ m_c81_43 ih_c81_43 => 
                        intro v284 v285 v286 hm_c81_43 f44 f45 f46
                        refine j_iload hx 8 dX12_film_81 rfl ?_
                        refine j_iload hx 3 dX12_film_83 rfl ?_
                        refine j_icmp_gt hx 128 dX12_film_85 rfl (by omega) (by omega) (fun h287 => ?_) (fun h287 => ?_)
                        · skip
                          refine j_iinc hx 7 [(8, .int (zI (v257 + 1))), (1, .int (zI x1)), (2, .int (zI x2)), (3, .int (zI x3)), (4, .int (zI x4)), (5, .int (zI x5)), (6, .int (zI v284)), (7, .int (zI v285)), (9, .int (zI v286))] dX12_film_128 rfl (by omega) (by decide) rfl ?_
                          refine j_goto hx 72 dX12_film_131 rfl ?_
                          exact j_sub [1, 2, 3, 4, 5, 6, 7, 0] [(1, .int (zI x1)), (2, .int (zI x2)), (3, .int (zI x3)), (4, .int (zI x4)), (5, .int (zI x5)), (6, .int (zI v284)), (7, .int (zI v285)), (8, .int (zI (v257 + 1)))] rfl (ih_c72_39 v284 v285 (v257 + 1) (by omega) (by omega) (by omega) (by omega))
                        · skip
                          refine j_iload hx 5 dX12_film_88 rfl ?_
                          refine j_iload hx 7 dX12_film_90 rfl ?_
                          refine j_iload hx 8 dX12_film_92 rfl ?_
                          refine j_icmp_ge hx 101 dX12_film_94 rfl (by omega) (by omega) (fun h288 => ?_) (fun h288 => ?_)
                          · skip
                            refine j_iconst hx dX12_film_101 ?_
                            refine j_iadd hx (r := v284) dX12_film_102 (by omega) ?_
                            refine j_istore hx [(6, .int (zI v284)), (1, .int (zI x1)), (2, .int (zI x2)), (3, .int (zI x3)), (4, .int (zI x4)), (5, .int (zI x5)), (7, .int (zI v285)), (8, .int (zI v257)), (9, .int (zI v286))] dX12_film_103 (by decide) rfl ?_
                            refine j_iload hx 6 dX12_film_105 rfl ?_
                            refine j_iload hx 7 dX12_film_107 rfl ?_
                            refine j_iload hx 8 dX12_film_109 rfl ?_
                            refine j_icmp_ne hx 118 dX12_film_111 rfl (by omega) (by omega) (fun h289 => ?_) (fun h289 => ?_)
                            · skip
                              refine j_iconst hx dX12_film_118 ?_
                              refine j_iadd hx (r := v285) dX12_film_119 (by omega) ?_
                              refine j_istore hx [(7, .int (zI v285)), (6, .int (zI v284)), (1, .int (zI x1)), (2, .int (zI x2)), (3, .int (zI x3)), (4, .int (zI x4)), (5, .int (zI x5)), (8, .int (zI v257)), (9, .int (zI v286))] dX12_film_120 (by decide) rfl ?_
                              refine j_iinc hx 8 [(9, .int (zI (v286 + 1))), (7, .int (zI v285)), (6, .int (zI v284)), (1, .int (zI x1)), (2, .int (zI x2)), (3, .int (zI x3)), (4, .int (zI x4)), (5, .int (zI x5)), (8, .int (zI v257))] dX12_film_122 rfl (by omega) (by decide) rfl ?_
                              refine j_goto hx 81 dX12_film_125 rfl ?_
                              exact j_sub [3, 4, 5, 6, 7, 2, 1, 8, 0] [(1, .int (zI x1)), (2, .int (zI x2)), (3, .int (zI x3)), (4, .int (zI x4)), (5, .int (zI x5)), (6, .int (zI v284)), (7, .int (zI v285)), (8, .int (zI v257)), (9, .int (zI (v286 + 1)))] rfl (ih_c81_43 v284 v285 (v286 + 1) (by omega) (by omega) (by omega) (by omega))
                            · skip
                              refine j_iconst hx dX12_film_114 ?_
                              refine j_goto hx 119 dX12_film_115 rfl ?_
                              refine j_iadd hx (r := v285 + 1) dX12_film_119 rfl ?_
                              refine j_norm (fun v290 f291 f292 f293 => ?_)
                              refine j_istore hx [(7, .int (zI v290)), (6, .int (zI v284)), (1, .int (zI x1)), (2, .int (zI x2)), (3, .int (zI x3)), (4, .int (zI x4)), (5, .int (zI x5)), (8, .int (zI v257)), (9, .int (zI v286))] dX12_film_120 (by decide) rfl ?_
                              refine j_iinc hx 8 [(9, .int (zI (v286 + 1))), (7, .int (zI v290)), (6, .int (zI v284)), (1, .int (zI x1)), (2, .int (zI x2)), (3, .int (zI x3)), (4, .int (zI x4)), (5, .int (zI x5)), (8, .int (zI v257))] dX12_film_122 rfl (by omega) (by decide) rfl ?_
                              refine j_goto hx 81 dX12_film_125 rfl ?_
                              exact j_sub [3, 4, 5, 6, 7, 2, 1, 8, 0] [(1, .int (zI x1)), (2, .int (zI x2)), (3, .int (zI x3)), (4, .int (zI x4)), (5, .int (zI x5)), (6, .int (zI v284)), (7, .int (zI v290)), (8, .int (zI v257)), (9, .int (zI (v286 + 1)))] rfl (ih_c81_43 v284 v290 (v286 + 1) (by omega) (by omega) (by omega) (by omega))
                          · skip
                            refine j_iconst hx dX12_film_97 ?_
                            refine j_goto hx 102 dX12_film_98 rfl ?_
                            refine j_iadd hx (r := v284 + 1) dX12_film_102 rfl ?_
                            refine j_norm (fun v294 f295 f296 f297 => ?_)
                            refine j_istore hx [(6, .int (zI v294)), (1, .int (zI x1)), (2, .int (zI x2)), (3, .int (zI x3)), (4, .int (zI x4)), (5, .int (zI x5)), (7, .int (zI v285)), (8, .int (zI v257)), (9, .int (zI v286))] dX12_film_103 (by decide) rfl ?_
                            refine j_iload hx 6 dX12_film_105 rfl ?_
                            refine j_iload hx 7 dX12_film_107 rfl ?_
                            refine j_iload hx 8 dX12_film_109 rfl ?_
                            refine j_icmp_ne hx 118 dX12_film_111 rfl (by omega) (by omega) (fun h298 => ?_) (fun h298 => ?_)
                            · skip
                              refine j_iconst hx dX12_film_118 ?_
                              refine j_iadd hx (r := v285) dX12_film_119 (by omega) ?_
                              refine j_istore hx [(7, .int (zI v285)), (6, .int (zI v294)), (1, .int (zI x1)), (2, .int (zI x2)), (3, .int (zI x3)), (4, .int (zI x4)), (5, .int (zI x5)), (8, .int (zI v257)), (9, .int (zI v286))] dX12_film_120 (by decide) rfl ?_
                              refine j_iinc hx 8 [(9, .int (zI (v286 + 1))), (7, .int (zI v285)), (6, .int (zI v294)), (1, .int (zI x1)), (2, .int (zI x2)), (3, .int (zI x3)), (4, .int (zI x4)), (5, .int (zI x5)), (8, .int (zI v257))] dX12_film_122 rfl (by omega) (by decide) rfl ?_
                              refine j_goto hx 81 dX12_film_125 rfl ?_
                              exact j_sub [3, 4, 5, 6, 7, 2, 1, 8, 0] [(1, .int (zI x1)), (2, .int (zI x2)), (3, .int (zI x3)), (4, .int (zI x4)), (5, .int (zI x5)), (6, .int (zI v294)), (7, .int (zI v285)), (8, .int (zI v257)), (9, .int (zI (v286 + 1)))] rfl (ih_c81_43 v294 v285 (v286 + 1) (by omega) (by omega) (by omega) (by omega))
                            · skip
                              refine j_iconst hx dX12_film_114 ?_
                              refine j_goto hx 119 dX12_film_115 rfl ?_
                              refine j_iadd hx (r := v285 + 1) dX12_film_119 rfl ?_
                              refine j_norm (fun v299 f300 f301 f302 => ?_)
                              refine j_istore hx [(7, .int (zI v299)), (6, .int (zI v294)), (1, .int (zI x1)), (2, .int (zI x2)), (3, .int (zI x3)), (4, .int (zI x4)), (5, .int (zI x5)), (8, .int (zI v257)), (9, .int (zI v286))] dX12_film_120 (by decide) rfl ?_
                              refine j_iinc hx 8 [(9, .int (zI (v286 + 1))), (7, .int (zI v299)), (6, .int (zI v294)), (1, .int (zI x1)), (2, .int (zI x2)), (3, .int (zI x3)), (4, .int (zI x4)), (5, .int (zI x5)), (8, .int (zI v257))] dX12_film_122 rfl (by omega) (by decide) rfl ?_
                              refine j_goto hx 81 dX12_film_125 rfl ?_
                              exact j_sub [3, 4, 5, 6, 7, 2, 1, 8, 0] [(1, .int (zI x1)), (2, .int (zI x2)), (3, .int (zI x3)), (4, .int (zI x4)), (5, .int (zI x5)), (6, .int (zI v294)), (7, .int (zI v299)), (8, .int (zI v257)), (9, .int (zI (v286 + 1)))] rfl (ih_c81_43 v294 v299 (v286 + 1) (by omega) (by omega) (by omega) (by omega))
                    exact j_sub [1, 2, 3, 4, 5, 6, 7, 8, 0] [(1, .int (zI x1)), (2, .int (zI x2)), (3, .int (zI x3)), (4, .int (zI x4)), (5, .int (zI x5)), (6, .int (zI v255)), (7, .int (zI v256)), (8, .int (zI v257)), (9, .int (zI x3))] rfl (c81_43 (2147483648 * 4) v255 v256 x3 (by omega) (by omega) (by omega) (by omega))
              exact j_sub [4, 5, 6, 7, 8, 2, 1, 0] [(1, .int (zI x1)), (2, .int (zI x2)), (3, .int (zI x3)), (4, .int (zI x4)), (5, .int (zI x5)), (6, .int (zI 0)), (7, .int (zI 0)), (8, .int (zI x1))] rfl (c72_39 (2147483648 * 4) 0 0 x1 (by omega) (by omega) (by omega) (by omega))
            · skip
              refine j_iconst hx dX12_film_61 ?_
              have f303 := zf hS_s38 ha (k := 0) rfl
              exact j_iret hx hq rfl (by decide) (by decide) dX12_film_62 ⟨0, rfl, rfl, hS_s38, (zFr_t (zFr_u zFr_rf e_s1 ha (by decide)) hF_s38 (by decide)), ⟨(by omega), by omega⟩⟩
          · skip
            refine j_iconst hx dX12_film_48 ?_
            refine j_goto hx 53 dX12_film_49 rfl ?_
            refine j_iconst hx dX12_film_53 ?_
            refine j_iconst hx dX12_film_54 ?_
            refine j_callV hx hG (c_X12_may hst a 1 1 1) lk_RX12_240 ha (by decide) rfl rfl rfl rfl [.int (zI 1), .int (zI 1), .int (zI 1)] ⟨rfl, hG, hS_s1, ha, (by omega), (by omega), (by omega)⟩ rfl rfl ⟨by decide, by decide⟩ ⟨by decide, by decide⟩ (k2 := 0) (n2 := 0) rfl rfl (Nat.le_of_ble_eq_true rfl) dX12_film_55 (kIM (fun v304 s47 hS_s47 hF_s47 q305 => ?_))
            refine j_if_ne hx 63 dX12_film_58 rfl (by omega) (fun h306 => ?_) (fun h306 => ?_)
            · skip
              refine j_iconst hx dX12_film_63 ?_
              refine j_istore hx [(6, .int (zI 0)), (0, .ref a), (1, .int (zI x1)), (2, .int (zI x2)), (3, .int (zI x3)), (4, .int (zI x4)), (5, .int (zI x5))] dX12_film_64 (by decide) rfl ?_
              refine j_iconst hx dX12_film_66 ?_
              refine j_istore hx [(7, .int (zI 0)), (6, .int (zI 0)), (0, .ref a), (1, .int (zI x1)), (2, .int (zI x2)), (3, .int (zI x3)), (4, .int (zI x4)), (5, .int (zI x5))] dX12_film_67 (by decide) rfl ?_
              refine j_iload_n hx 3 dX12_film_69 rfl ?_
              refine j_istore hx [(8, .int (zI x1)), (7, .int (zI 0)), (6, .int (zI 0)), (0, .ref a), (1, .int (zI x1)), (2, .int (zI x2)), (3, .int (zI x3)), (4, .int (zI x4)), (5, .int (zI x5))] dX12_film_70 (by decide) rfl ?_
              have c72_48 : ∀ (m_c72_48 : Nat) (v307 : Int) (v308 : Int) (v309 : Int), 2147483648 - v309 < m_c72_48 → ((-2147483648) ≤ v307 ∧ v307 ≤ 2147483647) → ((-2147483648) ≤ v308 ∧ v308 ≤ 2147483647) → ((-2147483648) ≤ v309 ∧ v309 ≤ 2147483647) → JJ X E 10 G s47 0 0 [(1, .int (zI x1)), (2, .int (zI x2)), (3, .int (zI x3)), (4, .int (zI x4)), (5, .int (zI x5)), (6, .int (zI v307)), (7, .int (zI v308)), (8, .int (zI v309))] 72 [] := by
                intro m_c72_48
                induction m_c72_48 with
                | zero => intro v307 v308 v309 hm_c72_48 f49 f50 f51; exfalso; omega
                | succ m_c72_48 ih_c72_48 => 
                  intro v307 v308 v309 hm_c72_48 f49 f50 f51
                  refine j_iload hx 7 dX12_film_72 rfl ?_
                  refine j_iload_n hx 1 dX12_film_74 rfl ?_
                  refine j_icmp_gt hx 134 dX12_film_75 rfl (by omega) (by omega) (fun h310 => ?_) (fun h310 => ?_)
                  · skip
                    refine j_iload hx 4 dX12_film_134 rfl ?_
                    refine j_if_ne hx 144 dX12_film_136 rfl (by omega) (fun h311 => ?_) (fun h311 => ?_)
                    · skip
                      refine j_iload hx 4 dX12_film_144 rfl ?_
                      refine j_iconst hx dX12_film_146 ?_
                      refine j_icmp_ne hx 155 dX12_film_147 rfl (by omega) ⟨by decide, by decide⟩ (fun h312 => ?_) (fun h312 => ?_)
                      · skip
                        refine j_iload_n hx 1 dX12_film_155 rfl ?_
                        refine j_iload_n hx 0 dX12_film_156 rfl ?_
                        refine j_isub hx (r := x2 - x1) dX12_film_157 rfl ?_
                        refine j_norm (fun v313 f314 f315 f316 => ?_)
                        refine j_iconst hx dX12_film_158 ?_
                        refine j_iadd hx (r := v313 + 1) dX12_film_159 rfl ?_
                        refine j_norm (fun v317 f318 f319 f320 => ?_)
                        refine j_iload hx 3 dX12_film_160 rfl ?_
                        refine j_iload_n hx 2 dX12_film_162 rfl ?_
                        refine j_isub hx (r := x4 - x3) dX12_film_163 rfl ?_
                        refine j_norm (fun v321 f322 f323 f324 => ?_)
                        refine j_iconst hx dX12_film_164 ?_
                        refine j_iadd hx (r := v321 + 1) dX12_film_165 rfl ?_
                        refine j_norm (fun v325 f326 f327 f328 => ?_)
                        refine j_imul hx (r := (v317 * v325)) dX12_film_166 rfl ?_
                        refine j_norm (fun v329 f330 f331 f332 => ?_)
                        have f333 := zf hS_s47 ha (k := 0) rfl
                        exact j_iret hx hq rfl (by decide) (by decide) dX12_film_167 ⟨v329, rfl, rfl, hS_s47, (zFr_t (zFr_u zFr_rf e_s1 ha (by decide)) hF_s47 (by decide)), ⟨(by omega), by omega⟩⟩
                      · skip
                        refine j_iload hx 6 dX12_film_150 rfl ?_
                        refine j_goto hx 167 dX12_film_152 rfl ?_
                        have f334 := zf hS_s47 ha (k := 0) rfl
                        exact j_iret hx hq rfl (by decide) (by decide) dX12_film_167 ⟨v308, rfl, rfl, hS_s47, (zFr_t (zFr_u zFr_rf e_s1 ha (by decide)) hF_s47 (by decide)), ⟨(by omega), by omega⟩⟩
                    · skip
                      refine j_iload hx 5 dX12_film_139 rfl ?_
                      refine j_goto hx 167 dX12_film_141 rfl ?_
                      have f335 := zf hS_s47 ha (k := 0) rfl
                      exact j_iret hx hq rfl (by decide) (by decide) dX12_film_167 ⟨v307, rfl, rfl, hS_s47, (zFr_t (zFr_u zFr_rf e_s1 ha (by decide)) hF_s47 (by decide)), ⟨(by omega), by omega⟩⟩
                  · skip
                    refine j_iload_n hx 2 dX12_film_78 rfl ?_
                    refine j_istore hx [(9, .int (zI x3)), (1, .int (zI x1)), (2, .int (zI x2)), (3, .int (zI x3)), (4, .int (zI x4)), (5, .int (zI x5)), (6, .int (zI v307)), (7, .int (zI v308)), (8, .int (zI v309))] dX12_film_79 (by decide) rfl ?_
                    have c81_52 : ∀ (m_c81_52 : Nat) (v336 : Int) (v337 : Int) (v338 : Int), 2147483648 - v338 < m_c81_52 → ((-2147483648) ≤ v336 ∧ v336 ≤ 2147483647) → ((-2147483648) ≤ v337 ∧ v337 ≤ 2147483647) → ((-2147483648) ≤ v338 ∧ v338 ≤ 2147483647) → JJ X E 10 G s47 0 0 [(1, .int (zI x1)), (2, .int (zI x2)), (3, .int (zI x3)), (4, .int (zI x4)), (5, .int (zI x5)), (6, .int (zI v336)), (7, .int (zI v337)), (8, .int (zI v309)), (9, .int (zI v338))] 81 [] := by
                      intro m_c81_52
                      induction m_c81_52 with
                      | zero => intro v336 v337 v338 hm_c81_52 f53 f54 f55; exfalso; omega
                      | succ m_c81_52 ih_c81_52 => 
                        intro v336 v337 v338 hm_c81_52 f53 f54 f55
                        refine j_iload hx 8 dX12_film_81 rfl ?_
                        refine j_iload hx 3 dX12_film_83 rfl ?_
                        refine j_icmp_gt hx 128 dX12_film_85 rfl (by omega) (by omega) (fun h339 => ?_) (fun h339 => ?_)
                        · skip
                          refine j_iinc hx 7 [(8, .int (zI (v309 + 1))), (1, .int (zI x1)), (2, .int (zI x2)), (3, .int (zI x3)), (4, .int (zI x4)), (5, .int (zI x5)), (6, .int (zI v336)), (7, .int (zI v337)), (9, .int (zI v338))] dX12_film_128 rfl (by omega) (by decide) rfl ?_
                          refine j_goto hx 72 dX12_film_131 rfl ?_
                          exact j_sub [1, 2, 3, 4, 5, 6, 7, 0] [(1, .int (zI x1)), (2, .int (zI x2)), (3, .int (zI x3)), (4, .int (zI x4)), (5, .int (zI x5)), (6, .int (zI v336)), (7, .int (zI v337)), (8, .int (zI (v309 + 1)))] rfl (ih_c72_48 v336 v337 (v309 + 1) (by omega) (by omega) (by omega) (by omega))
                        · skip
                          refine j_iload hx 5 dX12_film_88 rfl ?_
                          refine j_iload hx 7 dX12_film_90 rfl ?_
                          refine j_iload hx 8 dX12_film_92 rfl ?_
                          refine j_icmp_ge hx 101 dX12_film_94 rfl (by omega) (by omega) (fun h340 => ?_) (fun h340 => ?_)
                          · skip
                            refine j_iconst hx dX12_film_101 ?_
                            refine j_iadd hx (r := v336) dX12_film_102 (by omega) ?_
                            refine j_istore hx [(6, .int (zI v336)), (1, .int (zI x1)), (2, .int (zI x2)), (3, .int (zI x3)), (4, .int (zI x4)), (5, .int (zI x5)), (7, .int (zI v337)), (8, .int (zI v309)), (9, .int (zI v338))] dX12_film_103 (by decide) rfl ?_
                            refine j_iload hx 6 dX12_film_105 rfl ?_
                            refine j_iload hx 7 dX12_film_107 rfl ?_
                            refine j_iload hx 8 dX12_film_109 rfl ?_
                            refine j_icmp_ne hx 118 dX12_film_111 rfl (by omega) (by omega) (fun h341 => ?_) (fun h341 => ?_)
                            · skip
                              refine j_iconst hx dX12_film_118 ?_
                              refine j_iadd hx (r := v337) dX12_film_119 (by omega) ?_
                              refine j_istore hx [(7, .int (zI v337)), (6, .int (zI v336)), (1, .int (zI x1)), (2, .int (zI x2)), (3, .int (zI x3)), (4, .int (zI x4)), (5, .int (zI x5)), (8, .int (zI v309)), (9, .int (zI v338))] dX12_film_120 (by decide) rfl ?_
                              refine j_iinc hx 8 [(9, .int (zI (v338 + 1))), (7, .int (zI v337)), (6, .int (zI v336)), (1, .int (zI x1)), (2, .int (zI x2)), (3, .int (zI x3)), (4, .int (zI x4)), (5, .int (zI x5)), (8, .int (zI v309))] dX12_film_122 rfl (by omega) (by decide) rfl ?_
                              refine j_goto hx 81 dX12_film_125 rfl ?_
                              exact j_sub [3, 4, 5, 6, 7, 2, 1, 8, 0] [(1, .int (zI x1)), (2, .int (zI x2)), (3, .int (zI x3)), (4, .int (zI x4)), (5, .int (zI x5)), (6, .int (zI v336)), (7, .int (zI v337)), (8, .int (zI v309)), (9, .int (zI (v338 + 1)))] rfl (ih_c81_52 v336 v337 (v338 + 1) (by omega) (by omega) (by omega) (by omega))
                            · skip
                              refine j_iconst hx dX12_film_114 ?_
                              refine j_goto hx 119 dX12_film_115 rfl ?_
                              refine j_iadd hx (r := v337 + 1) dX12_film_119 rfl ?_
                              refine j_norm (fun v342 f343 f344 f345 => ?_)
                              refine j_istore hx [(7, .int (zI v342)), (6, .int (zI v336)), (1, .int (zI x1)), (2, .int (zI x2)), (3, .int (zI x3)), (4, .int (zI x4)), (5, .int (zI x5)), (8, .int (zI v309)), (9, .int (zI v338))] dX12_film_120 (by decide) rfl ?_
                              refine j_iinc hx 8 [(9, .int (zI (v338 + 1))), (7, .int (zI v342)), (6, .int (zI v336)), (1, .int (zI x1)), (2, .int (zI x2)), (3, .int (zI x3)), (4, .int (zI x4)), (5, .int (zI x5)), (8, .int (zI v309))] dX12_film_122 rfl (by omega) (by decide) rfl ?_
                              refine j_goto hx 81 dX12_film_125 rfl ?_
                              exact j_sub [3, 4, 5, 6, 7, 2, 1, 8, 0] [(1, .int (zI x1)), (2, .int (zI x2)), (3, .int (zI x3)), (4, .int (zI x4)), (5, .int (zI x5)), (6, .int (zI v336)), (7, .int (zI v342)), (8, .int (zI v309)), (9, .int (zI (v338 + 1)))] rfl (ih_c81_52 v336 v342 (v338 + 1) (by omega) (by omega) (by omega) (by omega))
                          · skip
                            refine j_iconst hx dX12_film_97 ?_
                            refine j_goto hx 102 dX12_film_98 rfl ?_
                            refine j_iadd hx (r := v336 + 1) dX12_film_102 rfl ?_
                            refine j_norm (fun v346 f347 f348 f349 => ?_)
                            refine j_istore hx [(6, .int (zI v346)), (1, .int (zI x1)), (2, .int (zI x2)), (3, .int (zI x3)), (4, .int (zI x4)), (5, .int (zI x5)), (7, .int (zI v337)), (8, .int (zI v309)), (9, .int (zI v338))] dX12_film_103 (by decide) rfl ?_
                            refine j_iload hx 6 dX12_film_105 rfl ?_
                            refine j_iload hx 7 dX12_film_107 rfl ?_
                            refine j_iload hx 8 dX12_film_109 rfl ?_
                            refine j_icmp_ne hx 118 dX12_film_111 rfl (by omega) (by omega) (fun h350 => ?_) (fun h350 => ?_)
                            · skip
                              refine j_iconst hx dX12_film_118 ?_
                              refine j_iadd hx (r := v337) dX12_film_119 (by omega) ?_
                              refine j_istore hx [(7, .int (zI v337)), (6, .int (zI v346)), (1, .int (zI x1)), (2, .int (zI x2)), (3, .int (zI x3)), (4, .int (zI x4)), (5, .int (zI x5)), (8, .int (zI v309)), (9, .int (zI v338))] dX12_film_120 (by decide) rfl ?_
                              refine j_iinc hx 8 [(9, .int (zI (v338 + 1))), (7, .int (zI v337)), (6, .int (zI v346)), (1, .int (zI x1)), (2, .int (zI x2)), (3, .int (zI x3)), (4, .int (zI x4)), (5, .int (zI x5)), (8, .int (zI v309))] dX12_film_122 rfl (by omega) (by decide) rfl ?_
                              refine j_goto hx 81 dX12_film_125 rfl ?_
                              exact j_sub [3, 4, 5, 6, 7, 2, 1, 8, 0] [(1, .int (zI x1)), (2, .int (zI x2)), (3, .int (zI x3)), (4, .int (zI x4)), (5, .int (zI x5)), (6, .int (zI v346)), (7, .int (zI v337)), (8, .int (zI v309)), (9, .int (zI (v338 + 1)))] rfl (ih_c81_52 v346 v337 (v338 + 1) (by omega) (by omega) (by omega) (by omega))
                            · skip
                              refine j_iconst hx dX12_film_114 ?_
                              refine j_goto hx 119 dX12_film_115 rfl ?_
                              refine j_iadd hx (r := v337 + 1) dX12_film_119 rfl ?_
                              refine j_norm (fun v351 f352 f353 f354 => ?_)
                              refine j_istore hx [(7, .int (zI v351)), (6, .int (zI v346)), (1, .int (zI x1)), (2, .int (zI x2)), (3, .int (zI x3)), (4, .int (zI x4)), (5, .int (zI x5)), (8, .int (zI v309)), (9, .int (zI v338))] dX12_film_120 (by decide) rfl ?_
                              refine j_iinc hx 8 [(9, .int (zI (v338 + 1))), (7, .int (zI v351)), (6, .int (zI v346)), (1, .int (zI x1)), (2, .int (zI x2)), (3, .int (zI x3)), (4, .int (zI x4)), (5, .int (zI x5)), (8, .int (zI v309))] dX12_film_122 rfl (by omega) (by decide) rfl ?_
                              refine j_goto hx 81 dX12_film_125 rfl ?_
                              exact j_sub [3, 4, 5, 6, 7, 2, 1, 8, 0] [(1, .int (zI x1)), (2, .int (zI x2)), (3, .int (zI x3)), (4, .int (zI x4)), (5, .int (zI x5)), (6, .int (zI v346)), (7, .int (zI v351)), (8, .int (zI v309)), (9, .int (zI (v338 + 1)))] rfl (ih_c81_52 v346 v351 (v338 + 1) (by omega) (by omega) (by omega) (by omega))
                    exact j_sub [1, 2, 3, 4, 5, 6, 7, 8, 0] [(1, .int (zI x1)), (2, .int (zI x2)), (3, .int (zI x3)), (4, .int (zI x4)), (5, .int (zI x5)), (6, .int (zI v307)), (7, .int (zI v308)), (8, .int (zI v309)), (9, .int (zI x3))] rfl (c81_52 (2147483648 * 4) v307 v308 x3 (by omega) (by omega) (by omega) (by omega))
              exact j_sub [4, 5, 6, 7, 8, 2, 1, 0] [(1, .int (zI x1)), (2, .int (zI x2)), (3, .int (zI x3)), (4, .int (zI x4)), (5, .int (zI x5)), (6, .int (zI 0)), (7, .int (zI 0)), (8, .int (zI x1))] rfl (c72_48 (2147483648 * 4) 0 0 x1 (by omega) (by omega) (by omega) (by omega))
            · skip
              refine j_iconst hx dX12_film_61 ?_
              have f355 := zf hS_s47 ha (k := 0) rfl
              exact j_iret hx hq rfl (by decide) (by decide) dX12_film_62 ⟨0, rfl, rfl, hS_s47, (zFr_t (zFr_u zFr_rf e_s1 ha (by decide)) hF_s47 (by decide)), ⟨(by omega), by omega⟩⟩

set_option maxHeartbeats 4000000 in
set_option maxRecDepth 20000 in
theorem c_X12_laws {E : zE} {l : Launch} (hst : l.stackTraces = false) (a : Nat) (x1 : Int) (x2 : Int) : Con E l yX12_laws cX12_laws 3 (some .int) { frames := 4, cells := 0, slots := 0, locals := 87 } (fun G s vs => vs = [.ref a, .int (zI x1), .int (zI x2)] ∧ zGK G ∧ zSK G s ∧ (gT G a = 13) ∧ ((-2147483648) ≤ x1 ∧ x1 ≤ 2147483647) ∧ ((-2147483648) ≤ x2 ∧ x2 ≤ 2147483647) ∧ (zS0m G s)) (fun G s _ => pI (fun r G2 s2 => G2 = G ∧ zSK G s2 ∧ zFr [13, 71, 84, 87, 99, 100, 101, 102, 103] G s s2 ∧ ((-1) ≤ r ∧ r ≤ 0) ∧ (((0 ≤ x1 ∧ x1 ≤ 8 ∧ 0 ≤ x2 ∧ x2 ≤ 1) → s2 a 0 = 0 ∧ ((x2 = 0 → r = -1) ∧ (x2 ≠ 0 → r = 0))) ∧ (¬ (0 ≤ x1 ∧ x1 ≤ 8 ∧ 0 ≤ x2 ∧ x2 ≤ 1) → s2 a 0 = 1)))) := by
  refine Con.mk hst (by decide) (fun G s vs h => by rw [h.1]; exact Nat.le_of_ble_eq_true rfl) ?_
  rintro X G s0 vs ⟨rfl, hG, hS0, ha, hx1, hx2, hF0⟩ rfl hx hq
  show JJ X E 3 G s0 0 0 [(0, .ref a), (1, .int (zI x1)), (2, .int (zI x2))] 0 []
  refine j_aload_n hx 0 dX12_laws_0 rfl ?_
  refine j_iconst hx dX12_laws_1 ?_
  refine p13_0 hx hG ha kf_RX12_3 dX12_laws_2 ?_
  obtain ⟨s1, e_s1⟩ : ∃ z, z = zU s0 a 0 0 := ⟨_, rfl⟩
  rw [← e_s1]
  have hS_s1 : zSK G s1 := by rw [e_s1]; exact zSK_F hS0 ha rfl rfl rfl (by omega)
  refine j_aload_n hx 0 dX12_laws_5 rfl ?_
  refine j_iload_n hx 1 dX12_laws_6 rfl ?_
  refine j_iconst hx dX12_laws_7 ?_
  refine j_bipush hx dX12_laws_8 rfl ?_
  refine j_callS hx (c_X12_within hst x1 0 8) lk_RX12_314 [.int (zI x1), .int (zI 0), .int (zI 8)] ⟨rfl, hG, hS_s1, (by omega), (by omega), (by omega)⟩ rfl rfl ⟨by decide, by decide⟩ ⟨by decide, by decide⟩ (k2 := 0) (n2 := 0) rfl rfl (Nat.le_of_ble_eq_true rfl) dX12_laws_10 (kIP (fun v1 q2 => ?_))
  refine j_if_eq hx 29 dX12_laws_13 rfl (by omega) (fun h3 => ?_) (fun h3 => ?_)
  · skip
    refine j_iconst hx dX12_laws_29 ?_
    refine j_iconst hx dX12_laws_30 ?_
    refine j_iconst hx dX12_laws_31 ?_
    refine j_callV hx hG (c_X12_may hst a 0 1 1) lk_RX12_240 ha (by decide) rfl rfl rfl rfl [.int (zI 0), .int (zI 1), .int (zI 1)] ⟨rfl, hG, hS_s1, ha, (by omega), (by omega), (by omega)⟩ rfl rfl ⟨by decide, by decide⟩ ⟨by decide, by decide⟩ (k2 := 0) (n2 := 0) rfl rfl (Nat.le_of_ble_eq_true rfl) dX12_laws_32 (kIM (fun v4 s2 hS_s2 hF_s2 q5 => ?_))
    refine j_if_ne hx 40 dX12_laws_35 rfl (by omega) (fun h6 => ?_) (fun h6 => ?_)
    · skip
      refine j_aload_n hx 0 dX12_laws_40 rfl ?_
      refine j_callV hx hG (c_X12_keeps hst a) lk_RX12_444 ha (by decide) rfl rfl rfl rfl [] ⟨rfl, hG, hS_s2, ha⟩ rfl rfl ⟨by decide, by decide⟩ ⟨by decide, by decide⟩ (k2 := 0) (n2 := 0) rfl rfl (Nat.le_of_ble_eq_true rfl) dX12_laws_41 (kVM (fun s3 hS_s3 hF_s3 q8 => ?_))
      refine j_aload_n hx 0 dX12_laws_44 rfl ?_
      refine g13_27 hx hG ha kf_RX12_56 dX12_laws_45 ?_
      refine j_sipush hx dX12_laws_48 rfl ?_
      refine j_iload_n hx 1 dX12_laws_51 rfl ?_
      refine j_iconst hx dX12_laws_52 ?_
      refine j_idiv hx dX12_laws_53 (by omega) ⟨by decide, by decide⟩ (by decide) (fun v9 f10 f11 f12 => ?_)
      refine j_iast hx hG (zr (k := 27) (t2 := 84) hG ha rfl) (by decide) rfl (zlen hG (zr (k := 27) (t2 := 84) hG ha rfl) (n := 515) rfl rfl) (by omega) (by omega) (j := 491) rfl dX12_laws_54 ?_
      obtain ⟨s4, e_s4⟩ : ∃ z, z = zU s3 (gP G a 27) 491 v9 := ⟨_, rfl⟩
      rw [← e_s4]
      have hS_s4 : zSK G s4 := by rw [e_s4]; exact zSK_A hS_s3 (zr (k := 27) (t2 := 84) hG ha rfl) rfl rfl rfl (by omega)
      refine j_aload_n hx 0 dX12_laws_55 rfl ?_
      refine g13_27 hx hG ha kf_RX12_56 dX12_laws_56 ?_
      refine j_sipush hx dX12_laws_59 rfl ?_
      refine j_iload_n hx 1 dX12_laws_62 rfl ?_
      refine j_iconst hx dX12_laws_63 ?_
      refine j_irem hx dX12_laws_64 (by omega) ⟨by decide, by decide⟩ (by decide) (fun v15 f16 f17 f18 f19 => ?_)
      refine j_iast hx hG (zr (k := 27) (t2 := 84) hG ha rfl) (by decide) rfl (zlen hG (zr (k := 27) (t2 := 84) hG ha rfl) (n := 515) rfl rfl) (by omega) (by omega) (j := 492) rfl dX12_laws_65 ?_
      obtain ⟨s5, e_s5⟩ : ∃ z, z = zU s4 (gP G a 27) 492 v15 := ⟨_, rfl⟩
      rw [← e_s5]
      have hS_s5 : zSK G s5 := by rw [e_s5]; exact zSK_A hS_s4 (zr (k := 27) (t2 := 84) hG ha rfl) rfl rfl rfl (by omega)
      refine j_aload_n hx 0 dX12_laws_66 rfl ?_
      refine j_callV hx hG (c_X12_findEnds hst a) lk_RX12_447 ha (by decide) rfl rfl rfl rfl [] ⟨rfl, hG, hS_s5, ha⟩ rfl rfl ⟨by decide, by decide⟩ ⟨by decide, by decide⟩ (k2 := 0) (n2 := 0) rfl rfl (Nat.le_of_ble_eq_true rfl) dX12_laws_67 (kVM (fun s6 hS_s6 hF_s6 q22 => ?_))
      refine j_aload_n hx 0 dX12_laws_70 rfl ?_
      refine j_callV hx hG (c_X12_back hst a) lk_RX12_450 ha (by decide) rfl rfl rfl rfl [] ⟨rfl, hG, hS_s6, ha⟩ rfl rfl ⟨by decide, by decide⟩ ⟨by decide, by decide⟩ (k2 := 0) (n2 := 0) rfl rfl (Nat.le_of_ble_eq_true rfl) dX12_laws_71 (kVM (fun s7 hS_s7 hF_s7 q24 => ?_))
      refine j_iload_n hx 2 dX12_laws_74 rfl ?_
      refine j_if_ne hx 85 dX12_laws_75 rfl (by omega) (fun h25 => ?_) (fun h25 => ?_)
      · skip
        refine j_aload_n hx 0 dX12_laws_85 rfl ?_
        refine g13_52 hx hG ha kf_RX12_429 (v := (s6 a 52)) (by rw [(zFr_g hF_s7 ha (by decide))]) dX12_laws_86 ?_
        have g26 : s7 a 0 = s6 a 0 := (by rw [(zFr_g hF_s7 ha (by decide))])
        have f27 := zf hS_s6 ha (k := 0) rfl
        exact j_iret hx hq rfl (by decide) (by decide) dX12_laws_89 ⟨(s6 a 52), rfl, rfl, hS_s7, (zFr_t (zFr_t (zFr_u (zFr_u (zFr_t (zFr_t (zFr_u zFr_rf e_s1 ha (by decide)) hF_s2 (by decide)) hF_s3 (by decide)) e_s4 (zr (k := 27) (t2 := 84) hG ha rfl) (by decide)) e_s5 (zr (k := 27) (t2 := 84) hG ha rfl) (by decide)) hF_s6 (by decide)) hF_s7 (by decide)), ⟨(by omega), by omega⟩⟩
      · skip
        refine j_aload_n hx 0 dX12_laws_78 rfl ?_
        refine g13_54 hx hG ha kf_RX12_441 (v := (s6 a 54)) (by rw [(zFr_g hF_s7 ha (by decide))]) dX12_laws_79 ?_
        refine j_goto hx 89 dX12_laws_82 rfl ?_
        have g28 : s7 a 0 = s6 a 0 := (by rw [(zFr_g hF_s7 ha (by decide))])
        have f29 := zf hS_s6 ha (k := 0) rfl
        exact j_iret hx hq rfl (by decide) (by decide) dX12_laws_89 ⟨(s6 a 54), rfl, rfl, hS_s7, (zFr_t (zFr_t (zFr_u (zFr_u (zFr_t (zFr_t (zFr_u zFr_rf e_s1 ha (by decide)) hF_s2 (by decide)) hF_s3 (by decide)) e_s4 (zr (k := 27) (t2 := 84) hG ha rfl) (by decide)) e_s5 (zr (k := 27) (t2 := 84) hG ha rfl) (by decide)) hF_s6 (by decide)) hF_s7 (by decide)), ⟨(by omega), by omega⟩⟩
    · skip
      refine j_iconst hx dX12_laws_38 ?_
      have f30 := zf hS_s2 ha (k := 0) rfl
      exact j_iret hx hq rfl (by decide) (by decide) dX12_laws_39 ⟨0, rfl, rfl, hS_s2, (zFr_t (zFr_u zFr_rf e_s1 ha (by decide)) hF_s2 (by decide)), ⟨(by omega), by omega⟩⟩
  · skip
    refine j_iload_n hx 2 dX12_laws_16 rfl ?_
    refine j_iconst hx dX12_laws_17 ?_
    refine j_iconst hx dX12_laws_18 ?_
    refine j_callS hx (c_X12_within hst x2 0 1) lk_RX12_314 [.int (zI x2), .int (zI 0), .int (zI 1)] ⟨rfl, hG, hS_s1, (by omega), (by omega), (by omega)⟩ rfl rfl ⟨by decide, by decide⟩ ⟨by decide, by decide⟩ (k2 := 0) (n2 := 0) rfl rfl (Nat.le_of_ble_eq_true rfl) dX12_laws_19 (kIP (fun v31 q32 => ?_))
    refine j_if_eq hx 29 dX12_laws_22 rfl (by omega) (fun h33 => ?_) (fun h33 => ?_)
    · skip
      refine j_iconst hx dX12_laws_29 ?_
      refine j_iconst hx dX12_laws_30 ?_
      refine j_iconst hx dX12_laws_31 ?_
      refine j_callV hx hG (c_X12_may hst a 0 1 1) lk_RX12_240 ha (by decide) rfl rfl rfl rfl [.int (zI 0), .int (zI 1), .int (zI 1)] ⟨rfl, hG, hS_s1, ha, (by omega), (by omega), (by omega)⟩ rfl rfl ⟨by decide, by decide⟩ ⟨by decide, by decide⟩ (k2 := 0) (n2 := 0) rfl rfl (Nat.le_of_ble_eq_true rfl) dX12_laws_32 (kIM (fun v34 s8 hS_s8 hF_s8 q35 => ?_))
      refine j_if_ne hx 40 dX12_laws_35 rfl (by omega) (fun h36 => ?_) (fun h36 => ?_)
      · skip
        refine j_aload_n hx 0 dX12_laws_40 rfl ?_
        refine j_callV hx hG (c_X12_keeps hst a) lk_RX12_444 ha (by decide) rfl rfl rfl rfl [] ⟨rfl, hG, hS_s8, ha⟩ rfl rfl ⟨by decide, by decide⟩ ⟨by decide, by decide⟩ (k2 := 0) (n2 := 0) rfl rfl (Nat.le_of_ble_eq_true rfl) dX12_laws_41 (kVM (fun s9 hS_s9 hF_s9 q38 => ?_))
        refine j_aload_n hx 0 dX12_laws_44 rfl ?_
        refine g13_27 hx hG ha kf_RX12_56 dX12_laws_45 ?_
        refine j_sipush hx dX12_laws_48 rfl ?_
        refine j_iload_n hx 1 dX12_laws_51 rfl ?_
        refine j_iconst hx dX12_laws_52 ?_
        refine j_idiv hx dX12_laws_53 (by omega) ⟨by decide, by decide⟩ (by decide) (fun v39 f40 f41 f42 => ?_)
        refine j_iast hx hG (zr (k := 27) (t2 := 84) hG ha rfl) (by decide) rfl (zlen hG (zr (k := 27) (t2 := 84) hG ha rfl) (n := 515) rfl rfl) (by omega) (by omega) (j := 491) rfl dX12_laws_54 ?_
        obtain ⟨s10, e_s10⟩ : ∃ z, z = zU s9 (gP G a 27) 491 v39 := ⟨_, rfl⟩
        rw [← e_s10]
        have hS_s10 : zSK G s10 := by rw [e_s10]; exact zSK_A hS_s9 (zr (k := 27) (t2 := 84) hG ha rfl) rfl rfl rfl (by omega)
        refine j_aload_n hx 0 dX12_laws_55 rfl ?_
        refine g13_27 hx hG ha kf_RX12_56 dX12_laws_56 ?_
        refine j_sipush hx dX12_laws_59 rfl ?_
        refine j_iload_n hx 1 dX12_laws_62 rfl ?_
        refine j_iconst hx dX12_laws_63 ?_
        refine j_irem hx dX12_laws_64 (by omega) ⟨by decide, by decide⟩ (by decide) (fun v45 f46 f47 f48 f49 => ?_)
        refine j_iast hx hG (zr (k := 27) (t2 := 84) hG ha rfl) (by decide) rfl (zlen hG (zr (k := 27) (t2 := 84) hG ha rfl) (n := 515) rfl rfl) (by omega) (by omega) (j := 492) rfl dX12_laws_65 ?_
        obtain ⟨s11, e_s11⟩ : ∃ z, z = zU s10 (gP G a 27) 492 v45 := ⟨_, rfl⟩
        rw [← e_s11]
        have hS_s11 : zSK G s11 := by rw [e_s11]; exact zSK_A hS_s10 (zr (k := 27) (t2 := 84) hG ha rfl) rfl rfl rfl (by omega)
        refine j_aload_n hx 0 dX12_laws_66 rfl ?_
        refine j_callV hx hG (c_X12_findEnds hst a) lk_RX12_447 ha (by decide) rfl rfl rfl rfl [] ⟨rfl, hG, hS_s11, ha⟩ rfl rfl ⟨by decide, by decide⟩ ⟨by decide, by decide⟩ (k2 := 0) (n2 := 0) rfl rfl (Nat.le_of_ble_eq_true rfl) dX12_laws_67 (kVM (fun s12 hS_s12 hF_s12 q52 => ?_))
        refine j_aload_n hx 0 dX12_laws_70 rfl ?_
        refine j_callV hx hG (c_X12_back hst a) lk_RX12_450 ha (by decide) rfl rfl rfl rfl [] ⟨rfl, hG, hS_s12, ha⟩ rfl rfl ⟨by decide, by decide⟩ ⟨by decide, by decide⟩ (k2 := 0) (n2 := 0) rfl rfl (Nat.le_of_ble_eq_true rfl) dX12_laws_71 (kVM (fun s13 hS_s13 hF_s13 q54 => ?_))
        refine j_iload_n hx 2 dX12_laws_74 rfl ?_
        refine j_if_ne hx 85 dX12_laws_75 rfl (by omega) (fun h55 => ?_) (fun h55 => ?_)
        · skip
          refine j_aload_n hx 0 dX12_laws_85 rfl ?_
          refine g13_52 hx hG ha kf_RX12_429 (v := (s12 a 52)) (by rw [(zFr_g hF_s13 ha (by decide))]) dX12_laws_86 ?_
          have g56 : s13 a 0 = s12 a 0 := (by rw [(zFr_g hF_s13 ha (by decide))])
          have f57 := zf hS_s12 ha (k := 0) rfl
          exact j_iret hx hq rfl (by decide) (by decide) dX12_laws_89 ⟨(s12 a 52), rfl, rfl, hS_s13, (zFr_t (zFr_t (zFr_u (zFr_u (zFr_t (zFr_t (zFr_u zFr_rf e_s1 ha (by decide)) hF_s8 (by decide)) hF_s9 (by decide)) e_s10 (zr (k := 27) (t2 := 84) hG ha rfl) (by decide)) e_s11 (zr (k := 27) (t2 := 84) hG ha rfl) (by decide)) hF_s12 (by decide)) hF_s13 (by decide)), ⟨(by omega), by omega⟩⟩
        · skip
          refine j_aload_n hx 0 dX12_laws_78 rfl ?_
          refine g13_54 hx hG ha kf_RX12_441 (v := (s12 a 54)) (by rw [(zFr_g hF_s13 ha (by decide))]) dX12_laws_79 ?_
          refine j_goto hx 89 dX12_laws_82 rfl ?_
          have g58 : s13 a 0 = s12 a 0 := (by rw [(zFr_g hF_s13 ha (by decide))])
          have f59 := zf hS_s12 ha (k := 0) rfl
          exact j_iret hx hq rfl (by decide) (by decide) dX12_laws_89 ⟨(s12 a 54), rfl, rfl, hS_s13, (zFr_t (zFr_t (zFr_u (zFr_u (zFr_t (zFr_t (zFr_u zFr_rf e_s1 ha (by decide)) hF_s8 (by decide)) hF_s9 (by decide)) e_s10 (zr (k := 27) (t2 := 84) hG ha rfl) (by decide)) e_s11 (zr (k := 27) (t2 := 84) hG ha rfl) (by decide)) hF_s12 (by decide)) hF_s13 (by decide)), ⟨(by omega), by omega⟩⟩
      · skip
        refine j_iconst hx dX12_laws_38 ?_
        have f60 := zf hS_s8 ha (k := 0) rfl
        exact j_iret hx hq rfl (by decide) (by decide) dX12_laws_39 ⟨0, rfl, rfl, hS_s8, (zFr_t (zFr_u zFr_rf e_s1 ha (by decide)) hF_s8 (by decide)), ⟨(by omega), by omega⟩⟩
    · skip
      refine j_iconst hx dX12_laws_25 ?_
      refine j_goto hx 30 dX12_laws_26 rfl ?_
      refine j_iconst hx dX12_laws_30 ?_
      refine j_iconst hx dX12_laws_31 ?_
      refine j_callV hx hG (c_X12_may hst a 1 1 1) lk_RX12_240 ha (by decide) rfl rfl rfl rfl [.int (zI 1), .int (zI 1), .int (zI 1)] ⟨rfl, hG, hS_s1, ha, (by omega), (by omega), (by omega)⟩ rfl rfl ⟨by decide, by decide⟩ ⟨by decide, by decide⟩ (k2 := 0) (n2 := 0) rfl rfl (Nat.le_of_ble_eq_true rfl) dX12_laws_32 (kIM (fun v61 s14 hS_s14 hF_s14 q62 => ?_))
      refine j_if_ne hx 40 dX12_laws_35 rfl (by omega) (fun h63 => ?_) (fun h63 => ?_)
      · skip
        refine j_aload_n hx 0 dX12_laws_40 rfl ?_
        refine j_callV hx hG (c_X12_keeps hst a) lk_RX12_444 ha (by decide) rfl rfl rfl rfl [] ⟨rfl, hG, hS_s14, ha⟩ rfl rfl ⟨by decide, by decide⟩ ⟨by decide, by decide⟩ (k2 := 0) (n2 := 0) rfl rfl (Nat.le_of_ble_eq_true rfl) dX12_laws_41 (kVM (fun s15 hS_s15 hF_s15 q65 => ?_))
        refine j_aload_n hx 0 dX12_laws_44 rfl ?_
        refine g13_27 hx hG ha kf_RX12_56 dX12_laws_45 ?_
        refine j_sipush hx dX12_laws_48 rfl ?_
        refine j_iload_n hx 1 dX12_laws_51 rfl ?_
        refine j_iconst hx dX12_laws_52 ?_
        refine j_idiv hx dX12_laws_53 (by omega) ⟨by decide, by decide⟩ (by decide) (fun v66 f67 f68 f69 => ?_)
        refine j_iast hx hG (zr (k := 27) (t2 := 84) hG ha rfl) (by decide) rfl (zlen hG (zr (k := 27) (t2 := 84) hG ha rfl) (n := 515) rfl rfl) (by omega) (by omega) (j := 491) rfl dX12_laws_54 ?_
        obtain ⟨s16, e_s16⟩ : ∃ z, z = zU s15 (gP G a 27) 491 v66 := ⟨_, rfl⟩
        rw [← e_s16]
        have hS_s16 : zSK G s16 := by rw [e_s16]; exact zSK_A hS_s15 (zr (k := 27) (t2 := 84) hG ha rfl) rfl rfl rfl (by omega)
        refine j_aload_n hx 0 dX12_laws_55 rfl ?_
        refine g13_27 hx hG ha kf_RX12_56 dX12_laws_56 ?_
        refine j_sipush hx dX12_laws_59 rfl ?_
        refine j_iload_n hx 1 dX12_laws_62 rfl ?_
        refine j_iconst hx dX12_laws_63 ?_
        refine j_irem hx dX12_laws_64 (by omega) ⟨by decide, by decide⟩ (by decide) (fun v72 f73 f74 f75 f76 => ?_)
        refine j_iast hx hG (zr (k := 27) (t2 := 84) hG ha rfl) (by decide) rfl (zlen hG (zr (k := 27) (t2 := 84) hG ha rfl) (n := 515) rfl rfl) (by omega) (by omega) (j := 492) rfl dX12_laws_65 ?_
        obtain ⟨s17, e_s17⟩ : ∃ z, z = zU s16 (gP G a 27) 492 v72 := ⟨_, rfl⟩
        rw [← e_s17]
        have hS_s17 : zSK G s17 := by rw [e_s17]; exact zSK_A hS_s16 (zr (k := 27) (t2 := 84) hG ha rfl) rfl rfl rfl (by omega)
        refine j_aload_n hx 0 dX12_laws_66 rfl ?_
        refine j_callV hx hG (c_X12_findEnds hst a) lk_RX12_447 ha (by decide) rfl rfl rfl rfl [] ⟨rfl, hG, hS_s17, ha⟩ rfl rfl ⟨by decide, by decide⟩ ⟨by decide, by decide⟩ (k2 := 0) (n2 := 0) rfl rfl (Nat.le_of_ble_eq_true rfl) dX12_laws_67 (kVM (fun s18 hS_s18 hF_s18 q79 => ?_))
        refine j_aload_n hx 0 dX12_laws_70 rfl ?_
        refine j_callV hx hG (c_X12_back hst a) lk_RX12_450 ha (by decide) rfl rfl rfl rfl [] ⟨rfl, hG, hS_s18, ha⟩ rfl rfl ⟨by decide, by decide⟩ ⟨by decide, by decide⟩ (k2 := 0) (n2 := 0) rfl rfl (Nat.le_of_ble_eq_true rfl) dX12_laws_71 (kVM (fun s19 hS_s19 hF_s19 q81 => ?_))
        refine j_iload_n hx 2 dX12_laws_74 rfl ?_
        refine j_if_ne hx 85 dX12_laws_75 rfl (by omega) (fun h82 => ?_) (fun h82 => ?_)
        · skip
          refine j_aload_n hx 0 dX12_laws_85 rfl ?_
          refine g13_52 hx hG ha kf_RX12_429 (v := (s18 a 52)) (by rw [(zFr_g hF_s19 ha (by decide))]) dX12_laws_86 ?_
          have g83 : s19 a 0 = s18 a 0 := (by rw [(zFr_g hF_s19 ha (by decide))])
          have f84 := zf hS_s18 ha (k := 0) rfl
          exact j_iret hx hq rfl (by decide) (by decide) dX12_laws_89 ⟨(s18 a 52), rfl, rfl, hS_s19, (zFr_t (zFr_t (zFr_u (zFr_u (zFr_t (zFr_t (zFr_u zFr_rf e_s1 ha (by decide)) hF_s14 (by decide)) hF_s15 (by decide)) e_s16 (zr (k := 27) (t2 := 84) hG ha rfl) (by decide)) e_s17 (zr (k := 27) (t2 := 84) hG ha rfl) (by decide)) hF_s18 (by decide)) hF_s19 (by decide)), ⟨(by omega), by omega⟩⟩
        · skip
          refine j_aload_n hx 0 dX12_laws_78 rfl ?_
          refine g13_54 hx hG ha kf_RX12_441 (v := (s18 a 54)) (by rw [(zFr_g hF_s19 ha (by decide))]) dX12_laws_79 ?_
          refine j_goto hx 89 dX12_laws_82 rfl ?_
          have g85 : s19 a 0 = s18 a 0 := (by rw [(zFr_g hF_s19 ha (by decide))])
          have f86 := zf hS_s18 ha (k := 0) rfl
          exact j_iret hx hq rfl (by decide) (by decide) dX12_laws_89 ⟨(s18 a 54), rfl, rfl, hS_s19, (zFr_t (zFr_t (zFr_u (zFr_u (zFr_t (zFr_t (zFr_u zFr_rf e_s1 ha (by decide)) hF_s14 (by decide)) hF_s15 (by decide)) e_s16 (zr (k := 27) (t2 := 84) hG ha rfl) (by decide)) e_s17 (zr (k := 27) (t2 := 84) hG ha rfl) (by decide)) hF_s18 (by decide)) hF_s19 (by decide)), ⟨(by omega), by omega⟩⟩
      · skip
        refine j_iconst hx dX12_laws_38 ?_
        have f87 := zf hS_s14 ha (k := 0) rfl
        exact j_iret hx hq rfl (by decide) (by decide) dX12_laws_39 ⟨0, rfl, rfl, hS_s14, (zFr_t (zFr_u zFr_rf e_s1 ha (by decide)) hF_s14 (by decide)), ⟨(by omega), by omega⟩⟩

set_option maxHeartbeats 4000000 in
set_option maxRecDepth 20000 in
theorem c_X12_right {E : zE} {l : Launch} (hst : l.stackTraces = false) (a : Nat) : Con E l yX12_right cX12_right 2 (some .int) { frames := 0, cells := 0, slots := 0, locals := 0 } (fun G s vs => vs = [.ref a] ∧ zGK G ∧ zSK G s ∧ (gT G a = 13) ∧ (zS0m G s)) (fun G s _ => pI (fun r G2 s2 => G2 = G ∧ zSK G s2 ∧ zFr [13] G s s2 ∧ (0 ≤ r ∧ r ≤ 0) ∧ s2 a 0 = 0)) := by
  refine Con.mk hst (by decide) (fun G s vs h => by rw [h.1]; exact Nat.le_of_ble_eq_true rfl) ?_
  rintro X G s0 vs ⟨rfl, hG, hS0, ha, hF0⟩ rfl hx hq
  show JJ X E 2 G s0 0 0 [(0, .ref a)] 0 []
  refine j_aload_n hx 0 dX12_right_0 rfl ?_
  refine j_iconst hx dX12_right_1 ?_
  refine p13_0 hx hG ha kf_RX12_3 dX12_right_2 ?_
  obtain ⟨s1, e_s1⟩ : ∃ z, z = zU s0 a 0 0 := ⟨_, rfl⟩
  rw [← e_s1]
  have hS_s1 : zSK G s1 := by rw [e_s1]; exact zSK_F hS0 ha rfl rfl rfl (by omega)
  refine j_iconst hx dX12_right_5 ?_
  refine j_istore_n hx [(1, .int (zI 0)), (0, .ref a)] dX12_right_6 (by decide) rfl ?_
  refine j_iload_n hx 0 dX12_right_7 rfl ?_
  refine j_aload_n hx 1 dX12_right_8 rfl ?_
  have f1 := z0fm hF0 ha (by decide) (k := 41) rfl
  refine g13_41 hx hG ha kf_RX12_198 (v := (s0 a 41)) (by rw [e_s1, zU_at (Or.inr (by decide))]) dX12_right_9 ?_
  refine j_icmp_ge hx 66 dX12_right_12 rfl ⟨by decide, by decide⟩ (by omega) (fun h2 => ?_) (fun h2 => absurd h2 (by omega))
  refine j_iload_n hx 0 dX12_right_66 rfl ?_
  have g3 : s1 a 0 = 0 := (by rw [e_s1, zU_eq])
  exact j_iret hx hq rfl (by decide) (by decide) dX12_right_67 ⟨0, rfl, rfl, hS_s1, (zFr_u zFr_rf e_s1 ha (by decide)), ⟨(by omega), by omega⟩⟩

set_option maxHeartbeats 4000000 in
set_option maxRecDepth 20000 in
theorem c_X12_entry {E : zE} {l : Launch} (hst : l.stackTraces = false) (a : Nat) (x1 : Int) (x2 : Int) : Con E l yX12_entry cX12_entry 3 (some .int) { frames := 1, cells := 0, slots := 0, locals := 23 } (fun G s vs => vs = [.ref a, .int (zI x1), .int (zI x2)] ∧ zGK G ∧ zSK G s ∧ (gT G a = 13) ∧ ((-2147483648) ≤ x1 ∧ x1 ≤ 2147483647) ∧ ((-2147483648) ≤ x2 ∧ x2 ≤ 2147483647) ∧ (zS0m G s)) (fun G s _ => pI (fun r G2 s2 => G2 = G ∧ zSK G s2 ∧ zFr [13, 71] G s s2 ∧ ((-1) ≤ r ∧ r ≤ 0) ∧ (((0 ≤ x2 ∧ x2 ≤ 1) → s2 a 0 = 0 ∧ (r = -1)) ∧ (¬ (0 ≤ x2 ∧ x2 ≤ 1) → s2 a 0 = 1)))) := by
  refine Con.mk hst (by decide) (fun G s vs h => by rw [h.1]; exact Nat.le_of_ble_eq_true rfl) ?_
  rintro X G s0 vs ⟨rfl, hG, hS0, ha, hx1, hx2, hF0⟩ rfl hx hq
  show JJ X E 3 G s0 0 0 [(0, .ref a), (1, .int (zI x1)), (2, .int (zI x2))] 0 []
  refine j_aload_n hx 0 dX12_entry_0 rfl ?_
  refine j_iconst hx dX12_entry_1 ?_
  refine p13_0 hx hG ha kf_RX12_3 dX12_entry_2 ?_
  obtain ⟨s1, e_s1⟩ : ∃ z, z = zU s0 a 0 0 := ⟨_, rfl⟩
  rw [← e_s1]
  have hS_s1 : zSK G s1 := by rw [e_s1]; exact zSK_F hS0 ha rfl rfl rfl (by omega)
  refine j_aload_n hx 0 dX12_entry_5 rfl ?_
  refine j_iload_n hx 2 dX12_entry_6 rfl ?_
  refine j_iconst hx dX12_entry_7 ?_
  refine j_iconst hx dX12_entry_8 ?_
  refine j_callS hx (c_X12_within hst x2 0 1) lk_RX12_314 [.int (zI x2), .int (zI 0), .int (zI 1)] ⟨rfl, hG, hS_s1, (by omega), (by omega), (by omega)⟩ rfl rfl ⟨by decide, by decide⟩ ⟨by decide, by decide⟩ (k2 := 0) (n2 := 0) rfl rfl (Nat.le_of_ble_eq_true rfl) dX12_entry_9 (kIP (fun v1 q2 => ?_))
  refine j_iconst hx dX12_entry_12 ?_
  refine j_iconst hx dX12_entry_13 ?_
  refine j_callV hx hG (c_X12_may hst a v1 1 1) lk_RX12_240 ha (by decide) rfl rfl rfl rfl [.int (zI v1), .int (zI 1), .int (zI 1)] ⟨rfl, hG, hS_s1, ha, (by omega), (by omega), (by omega)⟩ rfl rfl ⟨by decide, by decide⟩ ⟨by decide, by decide⟩ (k2 := 0) (n2 := 0) rfl rfl (Nat.le_of_ble_eq_true rfl) dX12_entry_14 (kIM (fun v3 s2 hS_s2 hF_s2 q4 => ?_))
  refine j_if_ne hx 22 dX12_entry_17 rfl (by omega) (fun h5 => ?_) (fun h5 => ?_)
  · skip
    refine j_iload_n hx 1 dX12_entry_22 rfl ?_
    refine j_iconst hx dX12_entry_23 ?_
    refine j_aload_n hx 0 dX12_entry_24 rfl ?_
    have f6 := zf hS_s2 ha (k := 41) rfl
    refine g13_41 hx hG ha kf_RX12_198 rfl dX12_entry_25 ?_
    refine j_iconst hx dX12_entry_28 ?_
    refine j_isub hx (r := (s2 a 41) - 1) dX12_entry_29 (by omega) ?_
    refine j_callS hx (c_X12_within hst x1 0 ((s2 a 41) - 1)) lk_RX12_314 [.int (zI x1), .int (zI 0), .int (zI ((s2 a 41) - 1))] ⟨rfl, hG, hS_s2, (by omega), (by omega), (by omega)⟩ rfl rfl ⟨by decide, by decide⟩ ⟨by decide, by decide⟩ (k2 := 0) (n2 := 0) rfl rfl (Nat.le_of_ble_eq_true rfl) dX12_entry_30 (kIP (fun v7 q8 => ?_))
    refine j_if_eq hx 49 dX12_entry_33 rfl (by omega) (fun h9 => ?_) (fun h9 => ?_)
    · skip
      refine j_iconst hx dX12_entry_49 ?_
      have f10 := zf hS_s2 ha (k := 0) rfl
      exact j_iret hx hq rfl (by decide) (by decide) dX12_entry_50 ⟨(-1), rfl, rfl, hS_s2, (zFr_t (zFr_u zFr_rf e_s1 ha (by decide)) hF_s2 (by decide)), ⟨(by omega), by omega⟩⟩
    · skip
      refine j_aload_n hx 0 dX12_entry_36 rfl ?_
      refine g13_40 hx hG ha kf_RX12_92 dX12_entry_37 ?_
      refine j_iconst hx dX12_entry_40 ?_
      refine j_iload_n hx 1 dX12_entry_41 rfl ?_
      refine j_imul hx (r := 2 * x1) dX12_entry_42 rfl ?_
      refine j_norm (fun v11 f12 f13 f14 => ?_)
      refine j_iload_n hx 2 dX12_entry_43 rfl ?_
      refine j_iadd hx (r := v11 + x2) dX12_entry_44 rfl ?_
      refine j_norm (fun v15 f16 f17 f18 => ?_)
      have f19 := z0am (j := (v15).toNat) hF0 (zr (k := 40) (t2 := 97) hG ha rfl) (by decide) rfl (zlen hG (zr (k := 40) (t2 := 97) hG ha rfl) (n := 24) rfl rfl) (show 0 ≤ v15 by omega) (by omega) rfl
      refine j_iald hx hG (zr (k := 40) (t2 := 97) hG ha rfl) (by decide) rfl (zlen hG (zr (k := 40) (t2 := 97) hG ha rfl) (n := 24) rfl rfl) (by omega) (by omega) (j := (v15).toNat) rfl (v := (s0 (gP G a 40) (v15).toNat)) (by rw [(zFr_g hF_s2 (zr (k := 40) (t2 := 97) hG ha rfl) (by decide)), e_s1, zU_at (Or.inl (zne ha (zr (k := 40) (t2 := 97) hG ha rfl) (by decide)))]) dX12_entry_45 ?_
      refine j_goto hx 50 dX12_entry_46 rfl ?_
      have f20 := zf hS_s2 ha (k := 0) rfl
      exact j_iret hx hq rfl (by decide) (by decide) dX12_entry_50 ⟨(s0 (gP G a 40) (v15).toNat), rfl, rfl, hS_s2, (zFr_t (zFr_u zFr_rf e_s1 ha (by decide)) hF_s2 (by decide)), ⟨(by omega), by omega⟩⟩
  · skip
    refine j_iconst hx dX12_entry_20 ?_
    have f21 := zf hS_s2 ha (k := 0) rfl
    exact j_iret hx hq rfl (by decide) (by decide) dX12_entry_21 ⟨0, rfl, rfl, hS_s2, (zFr_t (zFr_u zFr_rf e_s1 ha (by decide)) hF_s2 (by decide)), ⟨(by omega), by omega⟩⟩

set_option maxHeartbeats 4000000 in
set_option maxRecDepth 20000 in
theorem c_X12_keepsRow_84 {E : zE} {l : Launch} (hst : l.stackTraces = false) (a : Nat) (x1 : Int) (b2 : Nat) (x3 : Int) (x4 : Int) : Con E l yX12_keepsRow cX12_keepsRow 6 (some .int) { frames := 0, cells := 0, slots := 0, locals := 0 } (fun G s vs => vs = [.ref a, .int (zI x1), .ref b2, .int (zI x3), .int (zI x4)] ∧ zGK G ∧ zSK G s ∧ (gT G a = 13) ∧ (0 ≤ x1 ∧ x1 ≤ 39663) ∧ (gT G b2 = 84) ∧ (0 ≤ x3 ∧ x3 ≤ 515) ∧ (1 ≤ x4 ∧ x4 ≤ 1) ∧ (x1 + x3 ≤ 39663)) (fun G s _ => pI (fun r G2 s2 => G2 = G ∧ zSK G s2 ∧ zFr [106] G s s2 ∧ (0 ≤ r ∧ r ≤ 39663) ∧ r = x1 + x3)) := by
  refine Con.mk hst (by decide) (fun G s vs h => by rw [h.1]; exact Nat.le_of_ble_eq_true rfl) ?_
  rintro X G s0 vs ⟨rfl, hG, hS0, ha, hx1, hb2, hx3, hx4, e0⟩ rfl hx hq
  show JJ X E 6 G s0 0 0 [(0, .ref a), (1, .int (zI x1)), (2, .ref b2), (3, .int (zI x3)), (4, .int (zI x4))] 0 []
  refine j_iconst hx dX12_keepsRow_0 ?_
  refine j_istore hx [(5, .int (zI 0)), (0, .ref a), (1, .int (zI x1)), (2, .ref b2), (3, .int (zI x3)), (4, .int (zI x4))] dX12_keepsRow_1 (by decide) rfl ?_
  have c3_1 : ∀ (m_c3_1 : Nat) (v1 : Int) (s2 : zS), 2147483648 - v1 < m_c3_1 → (0 ≤ v1 ∧ v1 ≤ 515) → (zSK G s2) → (zFr [106] G s0 s2) → JJ X E 6 G s2 0 0 [(0, .ref a), (1, .int (zI x1)), (2, .ref b2), (3, .int (zI x3)), (4, .int (zI x4)), (5, .int (zI v1))] 3 [] := by
    intro m_c3_1
    induction m_c3_1 with
    | zero => intro v1 s2 hm_c3_1 f3 hS_s2 hF_s2; exfalso; omega
    | succ m_c3_1 ih_c3_1 => 
      intro v1 s2 hm_c3_1 f3 hS_s2 hF_s2
      refine j_iload hx 5 dX12_keepsRow_3 rfl ?_
      refine j_iload_n hx 3 dX12_keepsRow_5 rfl ?_
      refine j_icmp_ge hx 49 dX12_keepsRow_6 rfl (by omega) (by omega) (fun h2 => ?_) (fun h2 => ?_)
      · skip
        refine j_iload_n hx 1 dX12_keepsRow_49 rfl ?_
        refine j_iload_n hx 3 dX12_keepsRow_50 rfl ?_
        refine j_iadd hx (r := x1 + x3) dX12_keepsRow_51 rfl ?_
        exact j_iret hx hq rfl (by decide) (by decide) dX12_keepsRow_52 ⟨x1 + x3, rfl, rfl, hS_s2, (zFr_t zFr_rf hF_s2 (by decide)), ⟨(by omega), by omega⟩⟩
      · skip
        refine j_iload hx 4 dX12_keepsRow_9 rfl ?_
        refine j_if_eq hx 30 dX12_keepsRow_11 rfl (by omega) (fun h3 => absurd h3 (by omega)) (fun h3 => ?_)
        refine j_aload_n hx 0 dX12_keepsRow_14 rfl ?_
        refine g13_57 hx hG ha kf_RX12_125 dX12_keepsRow_15 ?_
        refine j_iload_n hx 1 dX12_keepsRow_18 rfl ?_
        refine j_iload hx 5 dX12_keepsRow_19 rfl ?_
        refine j_iadd hx (r := x1 + v1) dX12_keepsRow_21 rfl ?_
        refine j_aload_n hx 2 dX12_keepsRow_22 rfl ?_
        refine j_iload hx 5 dX12_keepsRow_23 rfl ?_
        have f4 := zah (j := (v1).toNat) hS0 hb2 aqH_84 (zlen hG hb2 (n := 515) rfl rfl) (show 0 ≤ v1 by omega) (by omega) rfl
        refine j_iald hx hG hb2 (by decide) rfl (zlen hG hb2 (n := 515) rfl rfl) (by omega) (by omega) (j := (v1).toNat) rfl (v := (s0 b2 (v1).toNat)) (by rw [(zFr_g hF_s2 hb2 (by decide))]) dX12_keepsRow_25 ?_
        refine j_iast hx hG (zr (k := 57) (t2 := 106) hG ha rfl) (by decide) rfl (zlen hG (zr (k := 57) (t2 := 106) hG ha rfl) (n := 39663) rfl rfl) (by omega) (by omega) (j := (x1 + v1).toNat) rfl dX12_keepsRow_26 ?_
        obtain ⟨s6, e_s6⟩ : ∃ z, z = zU s2 (gP G a 57) (x1 + v1).toNat ((s0 b2 (v1).toNat)) := ⟨_, rfl⟩
        rw [← e_s6]
        have hS_s6 : zSK G s6 := by rw [e_s6]; exact zSK_A hS_s2 (zr (k := 57) (t2 := 106) hG ha rfl) rfl rfl rfl (by omega)
        refine j_goto hx 43 dX12_keepsRow_27 rfl ?_
        refine j_iinc hx 5 [(5, .int (zI (v1 + 1))), (0, .ref a), (1, .int (zI x1)), (2, .ref b2), (3, .int (zI x3)), (4, .int (zI x4))] dX12_keepsRow_43 rfl (by omega) (by decide) rfl ?_
        refine j_goto hx 3 dX12_keepsRow_46 rfl ?_
        exact j_sub [1, 2, 3, 4, 5, 0] [(0, .ref a), (1, .int (zI x1)), (2, .ref b2), (3, .int (zI x3)), (4, .int (zI x4)), (5, .int (zI (v1 + 1)))] rfl (ih_c3_1 (v1 + 1) s6 (by omega) (by omega) hS_s6 (zFr_u (zFr_t zFr_rf hF_s2 (by decide)) e_s6 (zr (k := 57) (t2 := 106) hG ha rfl) (by decide)))
  exact j_sub [1, 2, 3, 4, 5, 0] [(0, .ref a), (1, .int (zI x1)), (2, .ref b2), (3, .int (zI x3)), (4, .int (zI x4)), (5, .int (zI 0))] rfl (c3_1 (2147483648 * 4) 0 s0 (by omega) (by omega) hS0 zFr_rf)

set_option maxHeartbeats 4000000 in
set_option maxRecDepth 20000 in
theorem c_X12_keepsRow_86 {E : zE} {l : Launch} (hst : l.stackTraces = false) (a : Nat) (x1 : Int) (b2 : Nat) (x3 : Int) (x4 : Int) : Con E l yX12_keepsRow cX12_keepsRow 6 (some .int) { frames := 0, cells := 0, slots := 0, locals := 0 } (fun G s vs => vs = [.ref a, .int (zI x1), .ref b2, .int (zI x3), .int (zI x4)] ∧ zGK G ∧ zSK G s ∧ (gT G a = 13) ∧ (0 ≤ x1 ∧ x1 ≤ 39663) ∧ (gT G b2 = 86) ∧ (0 ≤ x3 ∧ x3 ≤ 10000) ∧ (1 ≤ x4 ∧ x4 ≤ 1) ∧ (x1 + x3 ≤ 39663)) (fun G s _ => pI (fun r G2 s2 => G2 = G ∧ zSK G s2 ∧ zFr [106] G s s2 ∧ (0 ≤ r ∧ r ≤ 39663) ∧ r = x1 + x3)) := by
  refine Con.mk hst (by decide) (fun G s vs h => by rw [h.1]; exact Nat.le_of_ble_eq_true rfl) ?_
  rintro X G s0 vs ⟨rfl, hG, hS0, ha, hx1, hb2, hx3, hx4, e0⟩ rfl hx hq
  show JJ X E 6 G s0 0 0 [(0, .ref a), (1, .int (zI x1)), (2, .ref b2), (3, .int (zI x3)), (4, .int (zI x4))] 0 []
  refine j_iconst hx dX12_keepsRow_0 ?_
  refine j_istore hx [(5, .int (zI 0)), (0, .ref a), (1, .int (zI x1)), (2, .ref b2), (3, .int (zI x3)), (4, .int (zI x4))] dX12_keepsRow_1 (by decide) rfl ?_
  have c3_1 : ∀ (m_c3_1 : Nat) (v1 : Int) (s2 : zS), 2147483648 - v1 < m_c3_1 → (0 ≤ v1 ∧ v1 ≤ 10000) → (zSK G s2) → (zFr [106] G s0 s2) → JJ X E 6 G s2 0 0 [(0, .ref a), (1, .int (zI x1)), (2, .ref b2), (3, .int (zI x3)), (4, .int (zI x4)), (5, .int (zI v1))] 3 [] := by
    intro m_c3_1
    induction m_c3_1 with
    | zero => intro v1 s2 hm_c3_1 f3 hS_s2 hF_s2; exfalso; omega
    | succ m_c3_1 ih_c3_1 => 
      intro v1 s2 hm_c3_1 f3 hS_s2 hF_s2
      refine j_iload hx 5 dX12_keepsRow_3 rfl ?_
      refine j_iload_n hx 3 dX12_keepsRow_5 rfl ?_
      refine j_icmp_ge hx 49 dX12_keepsRow_6 rfl (by omega) (by omega) (fun h2 => ?_) (fun h2 => ?_)
      · skip
        refine j_iload_n hx 1 dX12_keepsRow_49 rfl ?_
        refine j_iload_n hx 3 dX12_keepsRow_50 rfl ?_
        refine j_iadd hx (r := x1 + x3) dX12_keepsRow_51 rfl ?_
        exact j_iret hx hq rfl (by decide) (by decide) dX12_keepsRow_52 ⟨x1 + x3, rfl, rfl, hS_s2, (zFr_t zFr_rf hF_s2 (by decide)), ⟨(by omega), by omega⟩⟩
      · skip
        refine j_iload hx 4 dX12_keepsRow_9 rfl ?_
        refine j_if_eq hx 30 dX12_keepsRow_11 rfl (by omega) (fun h3 => absurd h3 (by omega)) (fun h3 => ?_)
        refine j_aload_n hx 0 dX12_keepsRow_14 rfl ?_
        refine g13_57 hx hG ha kf_RX12_125 dX12_keepsRow_15 ?_
        refine j_iload_n hx 1 dX12_keepsRow_18 rfl ?_
        refine j_iload hx 5 dX12_keepsRow_19 rfl ?_
        refine j_iadd hx (r := x1 + v1) dX12_keepsRow_21 rfl ?_
        refine j_aload_n hx 2 dX12_keepsRow_22 rfl ?_
        refine j_iload hx 5 dX12_keepsRow_23 rfl ?_
        have f4 := zaI (j := (v1).toNat) hS0 hb2 rfl (zlen hG hb2 (n := 10000) rfl rfl) (show 0 ≤ v1 by omega) (by omega) rfl
        refine j_iald hx hG hb2 (by decide) rfl (zlen hG hb2 (n := 10000) rfl rfl) (by omega) (by omega) (j := (v1).toNat) rfl (v := (s0 b2 (v1).toNat)) (by rw [(zFr_g hF_s2 hb2 (by decide))]) dX12_keepsRow_25 ?_
        refine j_iast hx hG (zr (k := 57) (t2 := 106) hG ha rfl) (by decide) rfl (zlen hG (zr (k := 57) (t2 := 106) hG ha rfl) (n := 39663) rfl rfl) (by omega) (by omega) (j := (x1 + v1).toNat) rfl dX12_keepsRow_26 ?_
        obtain ⟨s6, e_s6⟩ : ∃ z, z = zU s2 (gP G a 57) (x1 + v1).toNat ((s0 b2 (v1).toNat)) := ⟨_, rfl⟩
        rw [← e_s6]
        have hS_s6 : zSK G s6 := by rw [e_s6]; exact zSK_A hS_s2 (zr (k := 57) (t2 := 106) hG ha rfl) rfl rfl rfl (by omega)
        refine j_goto hx 43 dX12_keepsRow_27 rfl ?_
        refine j_iinc hx 5 [(5, .int (zI (v1 + 1))), (0, .ref a), (1, .int (zI x1)), (2, .ref b2), (3, .int (zI x3)), (4, .int (zI x4))] dX12_keepsRow_43 rfl (by omega) (by decide) rfl ?_
        refine j_goto hx 3 dX12_keepsRow_46 rfl ?_
        exact j_sub [1, 2, 3, 4, 5, 0] [(0, .ref a), (1, .int (zI x1)), (2, .ref b2), (3, .int (zI x3)), (4, .int (zI x4)), (5, .int (zI (v1 + 1)))] rfl (ih_c3_1 (v1 + 1) s6 (by omega) (by omega) hS_s6 (zFr_u (zFr_t zFr_rf hF_s2 (by decide)) e_s6 (zr (k := 57) (t2 := 106) hG ha rfl) (by decide)))
  exact j_sub [1, 2, 3, 4, 5, 0] [(0, .ref a), (1, .int (zI x1)), (2, .ref b2), (3, .int (zI x3)), (4, .int (zI x4)), (5, .int (zI 0))] rfl (c3_1 (2147483648 * 4) 0 s0 (by omega) (by omega) hS0 zFr_rf)

set_option maxHeartbeats 4000000 in
set_option maxRecDepth 20000 in
theorem c_X12_keepsRow_91 {E : zE} {l : Launch} (hst : l.stackTraces = false) (a : Nat) (x1 : Int) (b2 : Nat) (x3 : Int) (x4 : Int) : Con E l yX12_keepsRow cX12_keepsRow 6 (some .int) { frames := 0, cells := 0, slots := 0, locals := 0 } (fun G s vs => vs = [.ref a, .int (zI x1), .ref b2, .int (zI x3), .int (zI x4)] ∧ zGK G ∧ zSK G s ∧ (gT G a = 13) ∧ (0 ≤ x1 ∧ x1 ≤ 39663) ∧ (gT G b2 = 91) ∧ (0 ≤ x3 ∧ x3 ≤ 900) ∧ (1 ≤ x4 ∧ x4 ≤ 1) ∧ (x1 + x3 ≤ 39663)) (fun G s _ => pI (fun r G2 s2 => G2 = G ∧ zSK G s2 ∧ zFr [106] G s s2 ∧ (0 ≤ r ∧ r ≤ 39663) ∧ r = x1 + x3)) := by
  refine Con.mk hst (by decide) (fun G s vs h => by rw [h.1]; exact Nat.le_of_ble_eq_true rfl) ?_
  rintro X G s0 vs ⟨rfl, hG, hS0, ha, hx1, hb2, hx3, hx4, e0⟩ rfl hx hq
  show JJ X E 6 G s0 0 0 [(0, .ref a), (1, .int (zI x1)), (2, .ref b2), (3, .int (zI x3)), (4, .int (zI x4))] 0 []
  refine j_iconst hx dX12_keepsRow_0 ?_
  refine j_istore hx [(5, .int (zI 0)), (0, .ref a), (1, .int (zI x1)), (2, .ref b2), (3, .int (zI x3)), (4, .int (zI x4))] dX12_keepsRow_1 (by decide) rfl ?_
  have c3_1 : ∀ (m_c3_1 : Nat) (v1 : Int) (s2 : zS), 2147483648 - v1 < m_c3_1 → (0 ≤ v1 ∧ v1 ≤ 900) → (zSK G s2) → (zFr [106] G s0 s2) → JJ X E 6 G s2 0 0 [(0, .ref a), (1, .int (zI x1)), (2, .ref b2), (3, .int (zI x3)), (4, .int (zI x4)), (5, .int (zI v1))] 3 [] := by
    intro m_c3_1
    induction m_c3_1 with
    | zero => intro v1 s2 hm_c3_1 f3 hS_s2 hF_s2; exfalso; omega
    | succ m_c3_1 ih_c3_1 => 
      intro v1 s2 hm_c3_1 f3 hS_s2 hF_s2
      refine j_iload hx 5 dX12_keepsRow_3 rfl ?_
      refine j_iload_n hx 3 dX12_keepsRow_5 rfl ?_
      refine j_icmp_ge hx 49 dX12_keepsRow_6 rfl (by omega) (by omega) (fun h2 => ?_) (fun h2 => ?_)
      · skip
        refine j_iload_n hx 1 dX12_keepsRow_49 rfl ?_
        refine j_iload_n hx 3 dX12_keepsRow_50 rfl ?_
        refine j_iadd hx (r := x1 + x3) dX12_keepsRow_51 rfl ?_
        exact j_iret hx hq rfl (by decide) (by decide) dX12_keepsRow_52 ⟨x1 + x3, rfl, rfl, hS_s2, (zFr_t zFr_rf hF_s2 (by decide)), ⟨(by omega), by omega⟩⟩
      · skip
        refine j_iload hx 4 dX12_keepsRow_9 rfl ?_
        refine j_if_eq hx 30 dX12_keepsRow_11 rfl (by omega) (fun h3 => absurd h3 (by omega)) (fun h3 => ?_)
        refine j_aload_n hx 0 dX12_keepsRow_14 rfl ?_
        refine g13_57 hx hG ha kf_RX12_125 dX12_keepsRow_15 ?_
        refine j_iload_n hx 1 dX12_keepsRow_18 rfl ?_
        refine j_iload hx 5 dX12_keepsRow_19 rfl ?_
        refine j_iadd hx (r := x1 + v1) dX12_keepsRow_21 rfl ?_
        refine j_aload_n hx 2 dX12_keepsRow_22 rfl ?_
        refine j_iload hx 5 dX12_keepsRow_23 rfl ?_
        have f4 := zaI (j := (v1).toNat) hS0 hb2 rfl (zlen hG hb2 (n := 900) rfl rfl) (show 0 ≤ v1 by omega) (by omega) rfl
        refine j_iald hx hG hb2 (by decide) rfl (zlen hG hb2 (n := 900) rfl rfl) (by omega) (by omega) (j := (v1).toNat) rfl (v := (s0 b2 (v1).toNat)) (by rw [(zFr_g hF_s2 hb2 (by decide))]) dX12_keepsRow_25 ?_
        refine j_iast hx hG (zr (k := 57) (t2 := 106) hG ha rfl) (by decide) rfl (zlen hG (zr (k := 57) (t2 := 106) hG ha rfl) (n := 39663) rfl rfl) (by omega) (by omega) (j := (x1 + v1).toNat) rfl dX12_keepsRow_26 ?_
        obtain ⟨s6, e_s6⟩ : ∃ z, z = zU s2 (gP G a 57) (x1 + v1).toNat ((s0 b2 (v1).toNat)) := ⟨_, rfl⟩
        rw [← e_s6]
        have hS_s6 : zSK G s6 := by rw [e_s6]; exact zSK_A hS_s2 (zr (k := 57) (t2 := 106) hG ha rfl) rfl rfl rfl (by omega)
        refine j_goto hx 43 dX12_keepsRow_27 rfl ?_
        refine j_iinc hx 5 [(5, .int (zI (v1 + 1))), (0, .ref a), (1, .int (zI x1)), (2, .ref b2), (3, .int (zI x3)), (4, .int (zI x4))] dX12_keepsRow_43 rfl (by omega) (by decide) rfl ?_
        refine j_goto hx 3 dX12_keepsRow_46 rfl ?_
        exact j_sub [1, 2, 3, 4, 5, 0] [(0, .ref a), (1, .int (zI x1)), (2, .ref b2), (3, .int (zI x3)), (4, .int (zI x4)), (5, .int (zI (v1 + 1)))] rfl (ih_c3_1 (v1 + 1) s6 (by omega) (by omega) hS_s6 (zFr_u (zFr_t zFr_rf hF_s2 (by decide)) e_s6 (zr (k := 57) (t2 := 106) hG ha rfl) (by decide)))
  exact j_sub [1, 2, 3, 4, 5, 0] [(0, .ref a), (1, .int (zI x1)), (2, .ref b2), (3, .int (zI x3)), (4, .int (zI x4)), (5, .int (zI 0))] rfl (c3_1 (2147483648 * 4) 0 s0 (by omega) (by omega) hS0 zFr_rf)
