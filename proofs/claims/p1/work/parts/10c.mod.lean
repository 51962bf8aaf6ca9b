theorem lk_RX12_435 : LkV RX12 435 RX12 yX12_writes cX12_writes 5 none 1 := ⟨km_RX12_435, ki_yX12_writes, ks_RX12_yX12_writes, kn_RX12, kc_yX12_writes, rfl, by decide +kernel, by decide +kernel, by decide +kernel⟩
theorem lk_RX12_438 : LkV RX12 438 RX12 yX12_earlier cX12_earlier 5 (some .int) 1 := ⟨km_RX12_438, ki_yX12_earlier, ks_RX12_yX12_earlier, kn_RX12, kc_yX12_earlier, rfl, by decide +kernel, by decide +kernel, by decide +kernel⟩
set_option maxHeartbeats 4000000 in
set_option maxRecDepth 20000 in
theorem c_X12_findEnds {E : zE} {l : Launch} (hst : l.stackTraces = false) (a : Nat) : Con E l yX12_findEnds cX12_findEnds 2 none { frames := 3, cells := 0, slots := 0, locals := 66 } (fun G s vs => vs = [.ref a] ∧ zGK G ∧ zSK G s ∧ (gT G a = 13)) (fun G s _ => pV (fun G2 s2 => G2 = G ∧ zSK G s2 ∧ zFr [13, 101, 102, 103] G s s2 ∧ s2 a 51 = 1 ∧ s2 a 52 = 0 ∧ s2 a 53 = 0 ∧ s2 a 54 = -1 ∧ s2 a 0 = s a 0)) := by
  refine Con.mk hst (by decide) (fun G s vs h => by rw [h.1]; exact Nat.le_of_ble_eq_true rfl) ?_
  rintro X G s0 vs ⟨rfl, hG, hS0, ha⟩ rfl hx hq
  show JJ X E 2 G s0 0 0 [(0, .ref a)] 0 []
  refine j_iconst hx dX12_findEnds_0 ?_
  refine j_istore_n hx [(1, .int (zI 0)), (0, .ref a)] dX12_findEnds_1 (by decide) rfl ?_
  have c2_1 : ∀ (m_c2_1 : Nat) (v1 : Int) (s2 : zS), 2147483648 - v1 < m_c2_1 → (0 ≤ v1 ∧ v1 ≤ 8192) → (zSK G s2) → (zFr [103] G s0 s2) → (zAll s2 (gP G a 50) (v1).toNat (-1)) → JJ X E 2 G s2 0 0 [(0, .ref a), (1, .int (zI v1))] 2 [] := by
    intro m_c2_1
    induction m_c2_1 with
    | zero => intro v1 s2 hm_c2_1 fA3 hS_s2 hF_s2 hB1; exfalso; omega
    | succ m_c2_1 ih_c2_1 => 
      intro v1 s2 hm_c2_1 fA3 hS_s2 hF_s2 hB1
      refine j_iload_n hx 1 dX12_findEnds_2 rfl ?_
      refine j_sipush hx dX12_findEnds_3 rfl ?_
      refine j_icmp_ge hx 22 dX12_findEnds_6 rfl (by omega) ⟨by decide, by decide⟩ (fun h2 => ?_) (fun h2 => ?_)
      · skip
        refine j_aload_n hx 0 dX12_findEnds_22 rfl ?_
        refine j_iconst hx dX12_findEnds_23 ?_
        refine p13_53 hx hG ha kf_RX12_426 dX12_findEnds_24 ?_
        obtain ⟨s7, e_s7⟩ : ∃ z, z = zU s2 a 53 0 := ⟨_, rfl⟩
        rw [← e_s7]
        have hS_s7 : zSK G s7 := by rw [e_s7]; exact zSK_F hS_s2 ha rfl rfl rfl (by omega)
        refine j_aload_n hx 0 dX12_findEnds_27 rfl ?_
        refine j_iconst hx dX12_findEnds_28 ?_
        refine p13_52 hx hG ha kf_RX12_429 dX12_findEnds_29 ?_
        obtain ⟨s8, e_s8⟩ : ∃ z, z = zU s7 a 52 0 := ⟨_, rfl⟩
        rw [← e_s8]
        have hS_s8 : zSK G s8 := by rw [e_s8]; exact zSK_F hS_s7 ha rfl rfl rfl (by omega)
        refine j_aload_n hx 0 dX12_findEnds_32 rfl ?_
        refine j_aload_n hx 0 dX12_findEnds_33 rfl ?_
        refine j_callV hx hG (c_X12_isOver hst a) lk_RX12_328 ha (by decide) rfl rfl rfl rfl [] ⟨rfl, hG, hS_s8, ha⟩ rfl rfl ⟨by decide, by decide⟩ ⟨by decide, by decide⟩ (k2 := 0) (n2 := 0) rfl rfl (Nat.le_of_ble_eq_true rfl) dX12_findEnds_34 (kIP (fun v3 q4 => ?_))
        refine j_if_eq hx 44 dX12_findEnds_37 rfl (by omega) (fun h5 => absurd h5 (by omega)) (fun h5 => ?_)
        refine j_iconst hx dX12_findEnds_40 ?_
        refine j_goto hx 45 dX12_findEnds_41 rfl ?_
        refine p13_51 hx hG ha kf_RX12_432 dX12_findEnds_45 ?_
        obtain ⟨s9, e_s9⟩ : ∃ z, z = zU s8 a 51 1 := ⟨_, rfl⟩
        rw [← e_s9]
        have hS_s9 : zSK G s9 := by rw [e_s9]; exact zSK_F hS_s8 ha rfl rfl rfl (by omega)
        refine j_aload_n hx 0 dX12_findEnds_48 rfl ?_
        refine j_iconst hx dX12_findEnds_49 ?_
        refine j_callV hx hG (c_X12_writes hst a 0) lk_RX12_435 ha (by decide) rfl rfl rfl rfl [.int (zI 0)] ⟨rfl, hG, hS_s9, ha, (by omega)⟩ rfl rfl ⟨by decide, by decide⟩ ⟨by decide, by decide⟩ (k2 := 0) (n2 := 0) rfl rfl (Nat.le_of_ble_eq_true rfl) dX12_findEnds_50 (kVM (fun s10 hS_s10 hF_s10 q7 => ?_))
        refine j_aload_n hx 0 dX12_findEnds_53 rfl ?_
        refine j_iconst hx dX12_findEnds_54 ?_
        have g8 : s10 (gP G a 50) 8192 = s2 (gP G a 50) 8192 := (by rw [(zFr_g hF_s10 (zr (k := 50) (t2 := 103) hG ha rfl) (by decide)), e_s9, zU_at (Or.inl (zne ha (zr (k := 50) (t2 := 103) hG ha rfl) (by decide))), e_s8, zU_at (Or.inl (zne ha (zr (k := 50) (t2 := 103) hG ha rfl) (by decide))), e_s7, zU_at (Or.inl (zne ha (zr (k := 50) (t2 := 103) hG ha rfl) (by decide)))])
        refine j_callV hx hG (c_X12_earlier hst a 0) lk_RX12_438 ha (by decide) rfl rfl rfl rfl [.int (zI 0)] ⟨rfl, hG, hS_s10, ha, (by omega), ((zAll_f (zAll_u (zAll_u (zAll_u (zAll_le hB1 (show 8192 ≤ ((v1)).toNat by omega)) e_s7 (zne ha (zr (k := 50) (t2 := 103) hG ha rfl) (by decide))) e_s8 (zne ha (zr (k := 50) (t2 := 103) hG ha rfl) (by decide))) e_s9 (zne ha (zr (k := 50) (t2 := 103) hG ha rfl) (by decide))) hF_s10 (zr (k := 50) (t2 := 103) hG ha rfl) (by decide)))⟩ rfl rfl ⟨by decide, by decide⟩ ⟨by decide, by decide⟩ (k2 := 0) (n2 := 0) rfl rfl (Nat.le_of_ble_eq_true rfl) dX12_findEnds_55 (kIM (fun v9 s11 hS_s11 hF_s11 q10 => ?_))
        refine j_pop hx dX12_findEnds_58 rfl ?_
        refine j_aload_n hx 0 dX12_findEnds_59 rfl ?_
        refine g13_51 hx hG ha kf_RX12_432 (v := 1) (by rw [(zFr_g hF_s11 ha (by decide)), (zFr_g hF_s10 ha (by decide)), e_s9, zU_eq]) dX12_findEnds_60 ?_
        refine j_iconst hx dX12_findEnds_63 ?_
        refine j_icmp_ne hx 155 dX12_findEnds_64 rfl ⟨by decide, by decide⟩ ⟨by decide, by decide⟩ (fun h11 => ?_) (fun h11 => absurd h11 (by omega))
        refine j_aload_n hx 0 dX12_findEnds_155 rfl ?_
        refine j_iconst hx dX12_findEnds_156 ?_
        refine p13_54 hx hG ha kf_RX12_441 dX12_findEnds_157 ?_
        obtain ⟨s12, e_s12⟩ : ∃ z, z = zU s11 a 54 (-1) := ⟨_, rfl⟩
        rw [← e_s12]
        have hS_s12 : zSK G s12 := by rw [e_s12]; exact zSK_F hS_s11 ha rfl rfl rfl (by omega)
        refine j_iconst hx dX12_findEnds_160 ?_
        refine j_istore_n hx [(1, .int (zI 0)), (0, .ref a)] dX12_findEnds_161 (by decide) rfl ?_
        refine j_iload_n hx 0 dX12_findEnds_162 rfl ?_
        refine j_aload_n hx 1 dX12_findEnds_163 rfl ?_
        have f12 := zf hS0 ha (k := 24) rfl
        refine g13_24 hx hG ha kf_RX12_189 (v := (s0 a 24)) (by rw [e_s12, zU_at (Or.inr (by decide)), (zFr_g hF_s11 ha (by decide)), (zFr_g hF_s10 ha (by decide)), e_s9, zU_at (Or.inr (by decide)), e_s8, zU_at (Or.inr (by decide)), e_s7, zU_at (Or.inr (by decide)), (zFr_g hF_s2 ha (by decide))]) dX12_findEnds_164 ?_
        refine j_icmp_ge hx 204 dX12_findEnds_167 rfl ⟨by decide, by decide⟩ (by omega) (fun h13 => ?_) (fun h13 => absurd h13 (by omega))
        have g14 : s12 a 51 = 1 := (by rw [e_s12, zU_at (Or.inr (by decide)), (zFr_g hF_s11 ha (by decide)), (zFr_g hF_s10 ha (by decide)), e_s9, zU_eq])
        have g15 : s12 a 52 = 0 := (by rw [e_s12, zU_at (Or.inr (by decide)), (zFr_g hF_s11 ha (by decide)), (zFr_g hF_s10 ha (by decide)), e_s9, zU_at (Or.inr (by decide)), e_s8, zU_eq])
        have g16 : s12 a 53 = 0 := (by rw [e_s12, zU_at (Or.inr (by decide)), (zFr_g hF_s11 ha (by decide)), (zFr_g hF_s10 ha (by decide)), e_s9, zU_at (Or.inr (by decide)), e_s8, zU_at (Or.inr (by decide)), e_s7, zU_eq])
        have g17 : s12 a 54 = (-1) := (by rw [e_s12, zU_eq])
        have g18 : s12 a 0 = s0 a 0 := (by rw [e_s12, zU_at (Or.inr (by decide)), (zFr_g hF_s11 ha (by decide)), (zFr_g hF_s10 ha (by decide)), e_s9, zU_at (Or.inr (by decide)), e_s8, zU_at (Or.inr (by decide)), e_s7, zU_at (Or.inr (by decide)), (zFr_g hF_s2 ha (by decide))])
        have f19 := zf hS0 ha (k := 0) rfl
        exact j_vret hx hq rfl (by decide) (by decide) dX12_findEnds_204 ⟨rfl, rfl, hS_s12, (zFr_u (zFr_t (zFr_t (zFr_u (zFr_u (zFr_u (zFr_t zFr_rf hF_s2 (by decide)) e_s7 ha (by decide)) e_s8 ha (by decide)) e_s9 ha (by decide)) hF_s10 (by decide)) hF_s11 (by decide)) e_s12 ha (by decide)), ⟨by omega, by omega, by omega, by omega, by omega⟩⟩
      · skip
        refine j_aload_n hx 0 dX12_findEnds_9 rfl ?_
        refine g13_50 hx hG ha kf_RX12_115 dX12_findEnds_10 ?_
        refine j_iload_n hx 1 dX12_findEnds_13 rfl ?_
        refine j_iconst hx dX12_findEnds_14 ?_
        refine j_iast hx hG (zr (k := 50) (t2 := 103) hG ha rfl) (by decide) rfl (zlen hG (zr (k := 50) (t2 := 103) hG ha rfl) (n := 8192) rfl rfl) (by omega) (by omega) (j := (v1).toNat) rfl dX12_findEnds_15 ?_
        obtain ⟨s13, e_s13⟩ : ∃ z, z = zU s2 (gP G a 50) (v1).toNat (-1) := ⟨_, rfl⟩
        rw [← e_s13]
        have hS_s13 : zSK G s13 := by rw [e_s13]; exact zSK_A hS_s2 (zr (k := 50) (t2 := 103) hG ha rfl) rfl rfl rfl (by omega)
        refine j_iinc hx 1 [(1, .int (zI (v1 + 1))), (0, .ref a)] dX12_findEnds_16 rfl (by omega) (by decide) rfl ?_
        refine j_goto hx 2 dX12_findEnds_19 rfl ?_
        exact j_sub [1, 0] [(0, .ref a), (1, .int (zI (v1 + 1)))] rfl (ih_c2_1 (v1 + 1) s13 (by omega) (by omega) hS_s13 (zFr_u (zFr_t zFr_rf hF_s2 (by decide)) e_s13 (zr (k := 50) (t2 := 103) hG ha rfl) (by decide)) (zAll_s hB1 e_s13 (by omega)))
  exact j_sub [1, 0] [(0, .ref a), (1, .int (zI 0))] rfl (c2_1 (2147483648 * 4) 0 s0 (by omega) (by omega) hS0 zFr_rf (fun j hj => absurd hj (by omega)))

set_option maxHeartbeats 4000000 in
set_option maxRecDepth 20000 in
theorem c_X12_back {E : zE} {l : Launch} (hst : l.stackTraces = false) (a : Nat) : Con E l yX12_back cX12_back 2 none { frames := 0, cells := 0, slots := 0, locals := 0 } (fun G s vs => vs = [.ref a] ∧ zGK G ∧ zSK G s ∧ (gT G a = 13)) (fun G s _ => pV (fun G2 s2 => G2 = G ∧ zSK G s2 ∧ zFr [84, 87] G s s2 ∧ True)) := by
  refine Con.mk hst (by decide) (fun G s vs h => by rw [h.1]; exact Nat.le_of_ble_eq_true rfl) ?_
  rintro X G s0 vs ⟨rfl, hG, hS0, ha⟩ rfl hx hq
  show JJ X E 2 G s0 0 0 [(0, .ref a)] 0 []
  refine j_iconst hx dX12_back_0 ?_
  refine j_istore_n hx [(1, .int (zI 0)), (0, .ref a)] dX12_back_1 (by decide) rfl ?_
  have c2_1 : ∀ (m_c2_1 : Nat) (v1 : Int) (s2 : zS), 2147483648 - v1 < m_c2_1 → (0 ≤ v1 ∧ v1 ≤ 515) → (zSK G s2) → (zFr [84] G s0 s2) → JJ X E 2 G s2 0 0 [(0, .ref a), (1, .int (zI v1))] 2 [] := by
    intro m_c2_1
    induction m_c2_1 with
    | zero => intro v1 s2 hm_c2_1 fA3 hS_s2 hF_s2; exfalso; omega
    | succ m_c2_1 ih_c2_1 => 
      intro v1 s2 hm_c2_1 fA3 hS_s2 hF_s2
      refine j_iload_n hx 1 dX12_back_2 rfl ?_
      refine j_sipush hx dX12_back_3 rfl ?_
      refine j_icmp_ge hx 27 dX12_back_6 rfl (by omega) ⟨by decide, by decide⟩ (fun h2 => ?_) (fun h2 => ?_)
      · skip
        refine j_iconst hx dX12_back_27 ?_
        refine j_istore_n hx [(1, .int (zI 0)), (0, .ref a)] dX12_back_28 (by decide) rfl ?_
        have c29_6 : ∀ (m_c29_6 : Nat) (v3 : Int) (s7 : zS), 2147483648 - v3 < m_c29_6 → (0 ≤ v3 ∧ v3 ≤ 5) → (zSK G s7) → (zFr [87] G s2 s7) → JJ X E 2 G s7 0 0 [(0, .ref a), (1, .int (zI v3))] 29 [] := by
          intro m_c29_6
          induction m_c29_6 with
          | zero => intro v3 s7 hm_c29_6 fA8 hS_s7 hF_s7; exfalso; omega
          | succ m_c29_6 ih_c29_6 => 
            intro v3 s7 hm_c29_6 fA8 hS_s7 hF_s7
            refine j_iload_n hx 1 dX12_back_29 rfl ?_
            refine j_iconst hx dX12_back_30 ?_
            refine j_icmp_ge hx 52 dX12_back_31 rfl (by omega) ⟨by decide, by decide⟩ (fun h4 => ?_) (fun h4 => ?_)
            · skip
              exact j_vret hx hq rfl (by decide) (by decide) dX12_back_52 ⟨rfl, rfl, hS_s7, (zFr_t (zFr_t zFr_rf hF_s2 (by decide)) hF_s7 (by decide)), trivial⟩
            · skip
              refine j_aload_n hx 0 dX12_back_34 rfl ?_
              refine g13_30 hx hG ha kf_RX12_65 dX12_back_35 ?_
              refine j_iload_n hx 1 dX12_back_38 rfl ?_
              refine j_aload_n hx 0 dX12_back_39 rfl ?_
              refine g13_47 hx hG ha kf_RX12_105 dX12_back_40 ?_
              refine j_iload_n hx 1 dX12_back_43 rfl ?_
              have f5 := zaI (j := (v3).toNat) hS0 (zr (k := 47) (t2 := 100) hG ha rfl) rfl (zlen hG (zr (k := 47) (t2 := 100) hG ha rfl) (n := 5) rfl rfl) (show 0 ≤ v3 by omega) (by omega) rfl
              refine j_iald hx hG (zr (k := 47) (t2 := 100) hG ha rfl) (by decide) rfl (zlen hG (zr (k := 47) (t2 := 100) hG ha rfl) (n := 5) rfl rfl) (by omega) (by omega) (j := (v3).toNat) rfl (v := (s0 (gP G a 47) (v3).toNat)) (by rw [(zFr_g hF_s7 (zr (k := 47) (t2 := 100) hG ha rfl) (by decide)), (zFr_g hF_s2 (zr (k := 47) (t2 := 100) hG ha rfl) (by decide))]) dX12_back_44 ?_
              refine j_iast hx hG (zr (k := 30) (t2 := 87) hG ha rfl) (by decide) rfl (zlen hG (zr (k := 30) (t2 := 87) hG ha rfl) (n := 5) rfl rfl) (by omega) (by omega) (j := (v3).toNat) rfl dX12_back_45 ?_
              obtain ⟨s11, e_s11⟩ : ∃ z, z = zU s7 (gP G a 30) (v3).toNat ((s0 (gP G a 47) (v3).toNat)) := ⟨_, rfl⟩
              rw [← e_s11]
              have hS_s11 : zSK G s11 := by rw [e_s11]; exact zSK_A hS_s7 (zr (k := 30) (t2 := 87) hG ha rfl) rfl rfl rfl (by omega)
              refine j_iinc hx 1 [(1, .int (zI (v3 + 1))), (0, .ref a)] dX12_back_46 rfl (by omega) (by decide) rfl ?_
              refine j_goto hx 29 dX12_back_49 rfl ?_
              exact j_sub [1, 0] [(0, .ref a), (1, .int (zI (v3 + 1)))] rfl (ih_c29_6 (v3 + 1) s11 (by omega) (by omega) hS_s11 (zFr_u (zFr_t zFr_rf hF_s7 (by decide)) e_s11 (zr (k := 30) (t2 := 87) hG ha rfl) (by decide)))
        exact j_sub [1, 0] [(0, .ref a), (1, .int (zI 0))] rfl (c29_6 (2147483648 * 4) 0 s2 (by omega) (by omega) hS_s2 zFr_rf)
      · skip
        refine j_aload_n hx 0 dX12_back_9 rfl ?_
        refine g13_27 hx hG ha kf_RX12_56 dX12_back_10 ?_
        refine j_iload_n hx 1 dX12_back_13 rfl ?_
        refine j_aload_n hx 0 dX12_back_14 rfl ?_
        refine g13_46 hx hG ha kf_RX12_102 dX12_back_15 ?_
        refine j_iload_n hx 1 dX12_back_18 rfl ?_
        have f6 := zah (j := (v1).toNat) hS0 (zr (k := 46) (t2 := 99) hG ha rfl) aqH_99 (zlen hG (zr (k := 46) (t2 := 99) hG ha rfl) (n := 515) rfl rfl) (show 0 ≤ v1 by omega) (by omega) rfl
        refine j_iald hx hG (zr (k := 46) (t2 := 99) hG ha rfl) (by decide) rfl (zlen hG (zr (k := 46) (t2 := 99) hG ha rfl) (n := 515) rfl rfl) (by omega) (by omega) (j := (v1).toNat) rfl (v := (s0 (gP G a 46) (v1).toNat)) (by rw [(zFr_g hF_s2 (zr (k := 46) (t2 := 99) hG ha rfl) (by decide))]) dX12_back_19 ?_
        refine j_iast hx hG (zr (k := 27) (t2 := 84) hG ha rfl) (by decide) rfl (zlen hG (zr (k := 27) (t2 := 84) hG ha rfl) (n := 515) rfl rfl) (by omega) (by omega) (j := (v1).toNat) rfl dX12_back_20 ?_
        obtain ⟨s12, e_s12⟩ : ∃ z, z = zU s2 (gP G a 27) (v1).toNat ((s0 (gP G a 46) (v1).toNat)) := ⟨_, rfl⟩
        rw [← e_s12]
        have hS_s12 : zSK G s12 := by rw [e_s12]; exact zSK_c hS_s2 hS0 (zr (k := 27) (t2 := 84) hG ha rfl) (zr (k := 46) (t2 := 99) hG ha rfl) (fun _ => rfl) rfl rfl (by have := (zlen hG (zr (k := 46) (t2 := 99) hG ha rfl) (n := 515) rfl rfl); omega) rfl
        refine j_iinc hx 1 [(1, .int (zI (v1 + 1))), (0, .ref a)] dX12_back_21 rfl (by omega) (by decide) rfl ?_
        refine j_goto hx 2 dX12_back_24 rfl ?_
        exact j_sub [1, 0] [(0, .ref a), (1, .int (zI (v1 + 1)))] rfl (ih_c2_1 (v1 + 1) s12 (by omega) (by omega) hS_s12 (zFr_u (zFr_t zFr_rf hF_s2 (by decide)) e_s12 (zr (k := 27) (t2 := 84) hG ha rfl) (by decide)))
  exact j_sub [1, 0] [(0, .ref a), (1, .int (zI 0))] rfl (c2_1 (2147483648 * 4) 0 s0 (by omega) (by omega) hS0 zFr_rf)

theorem lk_RX12_444 : LkV RX12 444 RX12 yX12_keeps cX12_keeps 2 none 0 := ⟨km_RX12_444, ki_yX12_keeps, ks_RX12_yX12_keeps, kn_RX12, kc_yX12_keeps, rfl, by decide +kernel, by decide +kernel, by decide +kernel⟩
theorem lk_RX12_447 : LkV RX12 447 RX12 yX12_findEnds cX12_findEnds 2 none 0 := ⟨km_RX12_447, ki_yX12_findEnds, ks_RX12_yX12_findEnds, kn_RX12, kc_yX12_findEnds, rfl, by decide +kernel, by decide +kernel, by decide +kernel⟩
theorem lk_RX12_450 : LkV RX12 450 RX12 yX12_back cX12_back 2 none 0 := ⟨km_RX12_450, ki_yX12_back, ks_RX12_yX12_back, kn_RX12, kc_yX12_back, rfl, by decide +kernel, by decide +kernel, by decide +kernel⟩
set_option maxHeartbeats 4000000 in
set_option maxRecDepth 20000 in
theorem c_X12_ends {E : zE} {l : Launch} (hst : l.stackTraces = false) (a : Nat) (x1 : Int) : Con E l yX12_ends cX12_ends 2 (some .int) { frames := 4, cells := 0, slots := 0, locals := 87 } (fun G s vs => vs = [.ref a, .int (zI x1)] ∧ zGK G ∧ zSK G s ∧ (gT G a = 13) ∧ ((-2147483648) ≤ x1 ∧ x1 ≤ 2147483647) ∧ (zS0m G s)) (fun G s _ => pI (fun r G2 s2 => G2 = G ∧ zSK G s2 ∧ zFr [13, 71, 84, 87, 99, 100, 101, 102, 103] G s s2 ∧ ((-1) ≤ r ∧ r ≤ 1) ∧ (((0 ≤ x1 ∧ x1 ≤ 3) → s2 a 0 = 0 ∧ ((x1 = 0 → r = -1) ∧ (x1 = 1 → r = 0) ∧ (x1 = 2 → r = 1) ∧ (x1 = 3 → r = 0))) ∧ (¬ (0 ≤ x1 ∧ x1 ≤ 3) → s2 a 0 = 1)))) := by
  refine Con.mk hst (by decide) (fun G s vs h => by rw [h.1]; exact Nat.le_of_ble_eq_true rfl) ?_
  rintro X G s0 vs ⟨rfl, hG, hS0, ha, hx1, hF0⟩ rfl hx hq
  show JJ X E 2 G s0 0 0 [(0, .ref a), (1, .int (zI x1))] 0 []
  refine j_aload_n hx 0 dX12_ends_0 rfl ?_
  refine j_iconst hx dX12_ends_1 ?_
  refine p13_0 hx hG ha kf_RX12_3 dX12_ends_2 ?_
  obtain ⟨s1, e_s1⟩ : ∃ z, z = zU s0 a 0 0 := ⟨_, rfl⟩
  rw [← e_s1]
  have hS_s1 : zSK G s1 := by rw [e_s1]; exact zSK_F hS0 ha rfl rfl rfl (by omega)
  refine j_aload_n hx 0 dX12_ends_5 rfl ?_
  refine j_iload_n hx 1 dX12_ends_6 rfl ?_
  refine j_iconst hx dX12_ends_7 ?_
  refine j_iconst hx dX12_ends_8 ?_
  refine j_callS hx (c_X12_within hst x1 0 3) lk_RX12_314 [.int (zI x1), .int (zI 0), .int (zI 3)] ⟨rfl, hG, hS_s1, (by omega), (by omega), (by omega)⟩ rfl rfl ⟨by decide, by decide⟩ ⟨by decide, by decide⟩ (k2 := 0) (n2 := 0) rfl rfl (Nat.le_of_ble_eq_true rfl) dX12_ends_9 (kIP (fun v1 q2 => ?_))
  refine j_iconst hx dX12_ends_12 ?_
  refine j_iconst hx dX12_ends_13 ?_
  rcases (show v1 = 0 ∨ v1 = 1 by omega) with rfl | rfl
  · skip
    have g4 : s1 a 0 = 0 := (by rw [e_s1, zU_eq])
    refine j_callV hx hG (c_X12_may_f hst a 0 1 1) lk_RX12_240 ha (by decide) rfl rfl rfl rfl [.int (zI 0), .int (zI 1), .int (zI 1)] ⟨rfl, hG, hS_s1, ha, (by omega), (by omega), (by omega), (((by rw [e_s1, zU_eq]) : s1 a 0 = 0).trans (by omega))⟩ rfl rfl ⟨by decide, by decide⟩ ⟨by decide, by decide⟩ (k2 := 0) (n2 := 0) rfl rfl (Nat.le_of_ble_eq_true rfl) dX12_ends_14 (kIM (fun v5 s2 hS_s2 hF_s2 q6 => ?_))
    refine j_if_ne hx 22 dX12_ends_17 rfl (by omega) (fun h7 => absurd h7 (by omega)) (fun h7 => ?_)
    refine j_iconst hx dX12_ends_20 ?_
    exact j_iret hx hq rfl (by decide) (by decide) dX12_ends_21 ⟨0, rfl, rfl, hS_s2, (zFr_t (zFr_u zFr_rf e_s1 ha (by decide)) hF_s2 (by decide)), ⟨(by omega), by omega⟩⟩
  · skip
    have g8 : s1 a 0 = 0 := (by rw [e_s1, zU_eq])
    refine j_callV hx hG (c_X12_may_t hst a 1 1 1) lk_RX12_240 ha (by decide) rfl rfl rfl rfl [.int (zI 1), .int (zI 1), .int (zI 1)] ⟨rfl, hG, hS_s1, ha, (by omega), (by omega), (by omega), (((by rw [e_s1, zU_eq]) : s1 a 0 = 0).trans (by omega))⟩ rfl rfl ⟨by decide, by decide⟩ ⟨by decide, by decide⟩ (k2 := 0) (n2 := 0) rfl rfl (Nat.le_of_ble_eq_true rfl) dX12_ends_14 (kIP (fun v9 q10 => ?_))
    refine j_if_ne hx 22 dX12_ends_17 rfl (by omega) (fun h11 => ?_) (fun h11 => absurd h11 (by omega))
    refine j_aload_n hx 0 dX12_ends_22 rfl ?_
    refine j_callV hx hG (c_X12_keeps hst a) lk_RX12_444 ha (by decide) rfl rfl rfl rfl [] ⟨rfl, hG, hS_s1, ha⟩ rfl rfl ⟨by decide, by decide⟩ ⟨by decide, by decide⟩ (k2 := 0) (n2 := 0) rfl rfl (Nat.le_of_ble_eq_true rfl) dX12_ends_23 (kVM (fun s3 hS_s3 hF_s3 q13 => ?_))
    refine j_aload_n hx 0 dX12_ends_26 rfl ?_
    have g14 : s3 a 0 = 0 := (by rw [(zFr_g hF_s3 ha (by decide)), e_s1, zU_eq])
    refine j_callV hx hG (c_X12_findEnds hst a) lk_RX12_447 ha (by decide) rfl rfl rfl rfl [] ⟨rfl, hG, hS_s3, ha⟩ rfl rfl ⟨by decide, by decide⟩ ⟨by decide, by decide⟩ (k2 := 0) (n2 := 0) rfl rfl (Nat.le_of_ble_eq_true rfl) dX12_ends_27 (kVM (fun s4 hS_s4 hF_s4 q16 => ?_))
    refine j_aload_n hx 0 dX12_ends_30 rfl ?_
    refine j_callV hx hG (c_X12_back hst a) lk_RX12_450 ha (by decide) rfl rfl rfl rfl [] ⟨rfl, hG, hS_s4, ha⟩ rfl rfl ⟨by decide, by decide⟩ ⟨by decide, by decide⟩ (k2 := 0) (n2 := 0) rfl rfl (Nat.le_of_ble_eq_true rfl) dX12_ends_31 (kVM (fun s5 hS_s5 hF_s5 q18 => ?_))
    refine j_iload_n hx 1 dX12_ends_34 rfl ?_
    refine j_if_ne hx 45 dX12_ends_35 rfl (by omega) (fun h19 => ?_) (fun h19 => ?_)
    · skip
      refine j_iload_n hx 1 dX12_ends_45 rfl ?_
      refine j_iconst hx dX12_ends_46 ?_
      refine j_icmp_ne hx 57 dX12_ends_47 rfl (by omega) ⟨by decide, by decide⟩ (fun h20 => ?_) (fun h20 => ?_)
      · skip
        refine j_iload_n hx 1 dX12_ends_57 rfl ?_
        refine j_iconst hx dX12_ends_58 ?_
        refine j_icmp_ne hx 69 dX12_ends_59 rfl (by omega) ⟨by decide, by decide⟩ (fun h21 => ?_) (fun h21 => ?_)
        · skip
          refine j_aload_n hx 0 dX12_ends_69 rfl ?_
          refine g13_53 hx hG ha kf_RX12_426 (v := (s4 a 53)) (by rw [(zFr_g hF_s5 ha (by decide))]) dX12_ends_70 ?_
          have g22 : s5 a 0 = s4 a 0 := (by rw [(zFr_g hF_s5 ha (by decide))])
          have f23 := zf hS_s4 ha (k := 0) rfl
          exact j_iret hx hq rfl (by decide) (by decide) dX12_ends_73 ⟨(s4 a 53), rfl, rfl, hS_s5, (zFr_t (zFr_t (zFr_t (zFr_u zFr_rf e_s1 ha (by decide)) hF_s3 (by decide)) hF_s4 (by decide)) hF_s5 (by decide)), ⟨(by omega), by omega⟩⟩
        · skip
          refine j_aload_n hx 0 dX12_ends_62 rfl ?_
          refine g13_51 hx hG ha kf_RX12_432 (v := (s4 a 51)) (by rw [(zFr_g hF_s5 ha (by decide))]) dX12_ends_63 ?_
          refine j_goto hx 73 dX12_ends_66 rfl ?_
          have g24 : s5 a 0 = s4 a 0 := (by rw [(zFr_g hF_s5 ha (by decide))])
          have f25 := zf hS_s4 ha (k := 0) rfl
          exact j_iret hx hq rfl (by decide) (by decide) dX12_ends_73 ⟨(s4 a 51), rfl, rfl, hS_s5, (zFr_t (zFr_t (zFr_t (zFr_u zFr_rf e_s1 ha (by decide)) hF_s3 (by decide)) hF_s4 (by decide)) hF_s5 (by decide)), ⟨(by omega), by omega⟩⟩
      · skip
        refine j_aload_n hx 0 dX12_ends_50 rfl ?_
        refine g13_52 hx hG ha kf_RX12_429 (v := (s4 a 52)) (by rw [(zFr_g hF_s5 ha (by decide))]) dX12_ends_51 ?_
        refine j_goto hx 73 dX12_ends_54 rfl ?_
        have g26 : s5 a 0 = s4 a 0 := (by rw [(zFr_g hF_s5 ha (by decide))])
        have f27 := zf hS_s4 ha (k := 0) rfl
        exact j_iret hx hq rfl (by decide) (by decide) dX12_ends_73 ⟨(s4 a 52), rfl, rfl, hS_s5, (zFr_t (zFr_t (zFr_t (zFr_u zFr_rf e_s1 ha (by decide)) hF_s3 (by decide)) hF_s4 (by decide)) hF_s5 (by decide)), ⟨(by omega), by omega⟩⟩
    · skip
      refine j_aload_n hx 0 dX12_ends_38 rfl ?_
      refine g13_54 hx hG ha kf_RX12_441 (v := (s4 a 54)) (by rw [(zFr_g hF_s5 ha (by decide))]) dX12_ends_39 ?_
      refine j_goto hx 73 dX12_ends_42 rfl ?_
      have g28 : s5 a 0 = s4 a 0 := (by rw [(zFr_g hF_s5 ha (by decide))])
      have f29 := zf hS_s4 ha (k := 0) rfl
      exact j_iret hx hq rfl (by decide) (by decide) dX12_ends_73 ⟨(s4 a 54), rfl, rfl, hS_s5, (zFr_t (zFr_t (zFr_t (zFr_u zFr_rf e_s1 ha (by decide)) hF_s3 (by decide)) hF_s4 (by decide)) hF_s5 (by decide)), ⟨(by omega), by omega⟩⟩

set_option maxHeartbeats 4000000 in
set_option maxRecDepth 20000 in
theorem c_X12_turnFor {E : zE} {l : Launch} (hst : l.stackTraces = false) (a : Nat) (x1 : Int) : Con E l yX12_turnFor cX12_turnFor 4 (some .boolean) { frames := 2, cells := 0, slots := 0, locals := 42 } (fun G s vs => vs = [.ref a, .int (zI x1)] ∧ zGK G ∧ zSK G s ∧ (gT G a = 13) ∧ ((-2147483648) ≤ x1 ∧ x1 ≤ 2147483647)) (fun G s _ => pI (fun r G2 s2 => G2 = G ∧ s2 = s ∧ (0 ≤ r ∧ r ≤ 0))) := by
  refine Con.mk hst (by decide) (fun G s vs h => by rw [h.1]; exact Nat.le_of_ble_eq_true rfl) ?_
  rintro X G s0 vs ⟨rfl, hG, hS0, ha, hx1⟩ rfl hx hq
  show JJ X E 4 G s0 0 0 [(0, .ref a), (1, .int (zI x1))] 0 []
  refine j_aload_n hx 0 dX12_turnFor_0 rfl ?_
  refine j_callV hx hG (c_X12_whose hst a) lk_RX12_336 ha (by decide) rfl rfl rfl rfl [] ⟨rfl, hG, hS0, ha⟩ rfl rfl ⟨by decide, by decide⟩ ⟨by decide, by decide⟩ (k2 := 0) (n2 := 0) rfl rfl (Nat.le_of_ble_eq_true rfl) dX12_turnFor_1 (kIP (fun v1 q2 => ?_))
  refine j_istore_n hx [(2, .int (zI v1)), (0, .ref a), (1, .int (zI x1))] dX12_turnFor_4 (by decide) rfl ?_
  refine j_iload_n hx 0 dX12_turnFor_5 rfl ?_
  refine j_iconst hx dX12_turnFor_6 ?_
  refine j_icmp_ne hx 12 dX12_turnFor_7 rfl (by omega) ⟨by decide, by decide⟩ (fun h3 => absurd h3 (by omega)) (fun h3 => ?_)
  refine j_iconst hx dX12_turnFor_10 ?_
  exact j_zret hx hq rfl (by decide) (by decide) dX12_turnFor_11 (by omega) ⟨0, rfl, rfl, rfl, (by omega)⟩

theorem lk_RX12_453 : LkV RX12 453 RX12 yX12_turnFor cX12_turnFor 4 (some .boolean) 1 := ⟨km_RX12_453, ki_yX12_turnFor, ks_RX12_yX12_turnFor, kn_RX12, kc_yX12_turnFor, rfl, by decide +kernel, by decide +kernel, by decide +kernel⟩
set_option maxHeartbeats 4000000 in
set_option maxRecDepth 20000 in
theorem c_X12_where {E : zE} {l : Launch} (hst : l.stackTraces = false) (a : Nat) (x1 : Int) : Con E l yX12_where cX12_where 5 (some .int) { frames := 3, cells := 0, slots := 0, locals := 65 } (fun G s vs => vs = [.ref a, .int (zI x1)] ∧ zGK G ∧ zSK G s ∧ (gT G a = 13) ∧ ((-2147483648) ≤ x1 ∧ x1 ≤ 2147483647) ∧ (zS0m G s)) (fun G s _ => pI (fun r G2 s2 => G2 = G ∧ zSK G s2 ∧ zFr [13, 84, 87, 99, 100] G s s2 ∧ ((-1) ≤ r ∧ r ≤ (-1)) ∧ s2 a 0 = 0)) := by
  refine Con.mk hst (by decide) (fun G s vs h => by rw [h.1]; exact Nat.le_of_ble_eq_true rfl) ?_
  rintro X G s0 vs ⟨rfl, hG, hS0, ha, hx1, hF0⟩ rfl hx hq
  show JJ X E 5 G s0 0 0 [(0, .ref a), (1, .int (zI x1))] 0 []
  refine j_aload_n hx 0 dX12_where_0 rfl ?_
  refine j_iconst hx dX12_where_1 ?_
  refine p13_0 hx hG ha kf_RX12_3 dX12_where_2 ?_
  obtain ⟨s1, e_s1⟩ : ∃ z, z = zU s0 a 0 0 := ⟨_, rfl⟩
  rw [← e_s1]
  have hS_s1 : zSK G s1 := by rw [e_s1]; exact zSK_F hS0 ha rfl rfl rfl (by omega)
  refine j_aload_n hx 0 dX12_where_5 rfl ?_
  refine j_callV hx hG (c_X12_keeps hst a) lk_RX12_444 ha (by decide) rfl rfl rfl rfl [] ⟨rfl, hG, hS_s1, ha⟩ rfl rfl ⟨by decide, by decide⟩ ⟨by decide, by decide⟩ (k2 := 0) (n2 := 0) rfl rfl (Nat.le_of_ble_eq_true rfl) dX12_where_6 (kVM (fun s2 hS_s2 hF_s2 q2 => ?_))
  refine j_iconst hx dX12_where_9 ?_
  refine j_istore_n hx [(2, .int (zI 0)), (0, .ref a), (1, .int (zI x1))] dX12_where_10 (by decide) rfl ?_
  refine j_iconst hx dX12_where_11 ?_
  refine j_istore_n hx [(3, .int (zI (-1))), (2, .int (zI 0)), (0, .ref a), (1, .int (zI x1))] dX12_where_12 (by decide) rfl ?_
  refine j_iconst hx dX12_where_13 ?_
  refine j_istore hx [(4, .int (zI 0)), (3, .int (zI (-1))), (2, .int (zI 0)), (0, .ref a), (1, .int (zI x1))] dX12_where_14 (by decide) rfl ?_
  refine j_iload hx 0 dX12_where_16 rfl ?_
  refine j_bipush hx dX12_where_18 rfl ?_
  refine j_icmp_ge hx 64 dX12_where_20 rfl ⟨by decide, by decide⟩ ⟨by decide, by decide⟩ (fun h3 => absurd h3 (by omega)) (fun h3 => ?_)
  refine j_iload_n hx 1 dX12_where_23 rfl ?_
  refine j_iconst hx dX12_where_24 ?_
  refine j_icmp_ne hx 64 dX12_where_25 rfl ⟨by decide, by decide⟩ ⟨by decide, by decide⟩ (fun h4 => absurd h4 (by omega)) (fun h4 => ?_)
  refine j_aload_n hx 3 dX12_where_28 rfl ?_
  refine j_iconst hx dX12_where_29 ?_
  refine j_callV hx hG (c_X12_turnFor hst a (-1)) lk_RX12_453 ha (by decide) rfl rfl rfl rfl [.int (zI (-1))] ⟨rfl, hG, hS_s2, ha, (by omega)⟩ rfl rfl ⟨by decide, by decide⟩ ⟨by decide, by decide⟩ (k2 := 0) (n2 := 0) rfl rfl (Nat.le_of_ble_eq_true rfl) dX12_where_30 (kIP (fun v5 q6 => ?_))
  refine j_if_eq hx 64 dX12_where_33 rfl (by omega) (fun h7 => ?_) (fun h7 => absurd h7 (by omega))
  refine j_aload_n hx 3 dX12_where_64 rfl ?_
  refine j_callV hx hG (c_X12_back hst a) lk_RX12_450 ha (by decide) rfl rfl rfl rfl [] ⟨rfl, hG, hS_s2, ha⟩ rfl rfl ⟨by decide, by decide⟩ ⟨by decide, by decide⟩ (k2 := 0) (n2 := 0) rfl rfl (Nat.le_of_ble_eq_true rfl) dX12_where_65 (kVM (fun s3 hS_s3 hF_s3 q9 => ?_))
  refine j_iload_n hx 1 dX12_where_68 rfl ?_
  have g10 : s3 a 0 = 0 := (by rw [(zFr_g hF_s3 ha (by decide)), (zFr_g hF_s2 ha (by decide)), e_s1, zU_eq])
  exact j_iret hx hq rfl (by decide) (by decide) dX12_where_69 ⟨(-1), rfl, rfl, hS_s3, (zFr_t (zFr_t (zFr_u zFr_rf e_s1 ha (by decide)) hF_s2 (by decide)) hF_s3 (by decide)), ⟨(by omega), by omega⟩⟩

set_option maxHeartbeats 4000000 in
set_option maxRecDepth 20000 in
theorem c_X12_chance {E : zE} {l : Launch} (hst : l.stackTraces = false) (a : Nat) (x1 : Int) (x2 : Int) (x3 : Int) : Con E l yX12_chance cX12_chance 9 (some .int) { frames := 2, cells := 0, slots := 0, locals := 45 } (fun G s vs => vs = [.ref a, .int (zI x1), .int (zI x2), .int (zI x3)] ∧ zGK G ∧ zSK G s ∧ (gT G a = 13) ∧ ((-2147483648) ≤ x1 ∧ x1 ≤ 2147483647) ∧ ((-2147483648) ≤ x2 ∧ x2 ≤ 2147483647) ∧ ((-2147483648) ≤ x3 ∧ x3 ≤ 2147483647) ∧ (zS0m G s)) (fun G s _ => pI (fun r G2 s2 => G2 = G ∧ zSK G s2 ∧ zFr [13, 71] G s s2 ∧ ((-2147483648) ≤ r ∧ r ≤ 2147483647) ∧ s2 a 0 = 1)) := by
  refine Con.mk hst (by decide) (fun G s vs h => by rw [h.1]; exact Nat.le_of_ble_eq_true rfl) ?_
  rintro X G s0 vs ⟨rfl, hG, hS0, ha, hx1, hx2, hx3, hF0⟩ rfl hx hq
  show JJ X E 9 G s0 0 0 [(0, .ref a), (1, .int (zI x1)), (2, .int (zI x2)), (3, .int (zI x3))] 0 []
  refine j_aload_n hx 0 dX12_chance_0 rfl ?_
  refine j_iconst hx dX12_chance_1 ?_
  refine p13_0 hx hG ha kf_RX12_3 dX12_chance_2 ?_
  obtain ⟨s1, e_s1⟩ : ∃ z, z = zU s0 a 0 0 := ⟨_, rfl⟩
  rw [← e_s1]
  have hS_s1 : zSK G s1 := by rw [e_s1]; exact zSK_F hS0 ha rfl rfl rfl (by omega)
  refine j_aload_n hx 0 dX12_chance_5 rfl ?_
  refine j_iload_n hx 1 dX12_chance_6 rfl ?_
  refine j_iconst hx dX12_chance_7 ?_
  have g1 : s1 a 0 = 0 := (by rw [e_s1, zU_eq])
  refine j_callV hx hG (c_X12_isPlayer hst a x1 1) lk_RX12_339 ha (by decide) rfl rfl rfl rfl [.int (zI x1), .int (zI 1)] ⟨rfl, hG, hS_s1, ha, (by omega), (by omega), (((by rw [e_s1, zU_eq]) : s1 a 0 = 0).trans (by omega))⟩ rfl rfl ⟨by decide, by decide⟩ ⟨by decide, by decide⟩ (k2 := 0) (n2 := 0) rfl rfl (Nat.le_of_ble_eq_true rfl) dX12_chance_8 (kIM (fun v2 s2 hS_s2 hF_s2 q3 => ?_))
  refine j_if_eq hx 38 dX12_chance_11 rfl (by omega) (fun h4 => ?_) (fun h4 => absurd h4 (by omega))
  refine j_iconst hx dX12_chance_38 ?_
  exact j_iret hx hq rfl (by decide) (by decide) dX12_chance_39 ⟨0, rfl, rfl, hS_s2, (zFr_t (zFr_u zFr_rf e_s1 ha (by decide)) hF_s2 (by decide)), ⟨(by omega), by omega⟩⟩

set_option maxHeartbeats 4000000 in
set_option maxRecDepth 20000 in
theorem c_X12_isWorth {E : zE} {l : Launch} (hst : l.stackTraces = false) (a : Nat) (x1 : Int) (x2 : Int) (x3 : Int) (x4 : Int) : Con E l yX12_isWorth cX12_isWorth 5 (some .boolean) { frames := 1, cells := 0, slots := 0, locals := 23 } (fun G s vs => vs = [.ref a, .int (zI x1), .int (zI x2), .int (zI x3), .int (zI x4)] ∧ zGK G ∧ zSK G s ∧ (gT G a = 13) ∧ ((-2147483648) ≤ x1 ∧ x1 ≤ 2147483647) ∧ ((-2147483648) ≤ x2 ∧ x2 ≤ 2147483647) ∧ ((-2147483648) ≤ x3 ∧ x3 ≤ 2147483647) ∧ ((-2147483648) ≤ x4 ∧ x4 ≤ 2147483647) ∧ (s a 0 = 0)) (fun G s _ => pI (fun r G2 s2 => G2 = G ∧ zSK G s2 ∧ zFr [13, 71] G s s2 ∧ (0 ≤ r ∧ r ≤ 1) ∧ ((r = 1 → (1 ≤ x2 ∧ x2 ≤ 99 ∧ 0 ≤ x1 ∧ x1 ≤ x2 ∧ 0 ≤ x3 ∧ x3 ≤ 99 ∧ 0 ≤ x4 ∧ x4 ≤ 99) ∧ s2 a 0 = 0) ∧ (r = 0 → ¬ (1 ≤ x2 ∧ x2 ≤ 99 ∧ 0 ≤ x1 ∧ x1 ≤ x2 ∧ 0 ≤ x3 ∧ x3 ≤ 99 ∧ 0 ≤ x4 ∧ x4 ≤ 99) ∧ s2 a 0 = 1)))) := by
  refine Con.mk hst (by decide) (fun G s vs h => by rw [h.1]; exact Nat.le_of_ble_eq_true rfl) ?_
  rintro X G s0 vs ⟨rfl, hG, hS0, ha, hx1, hx2, hx3, hx4, e0⟩ rfl hx hq
  show JJ X E 5 G s0 0 0 [(0, .ref a), (1, .int (zI x1)), (2, .int (zI x2)), (3, .int (zI x3)), (4, .int (zI x4))] 0 []
  refine j_aload_n hx 0 dX12_isWorth_0 rfl ?_
  refine j_iload_n hx 2 dX12_isWorth_1 rfl ?_
  refine j_iconst hx dX12_isWorth_2 ?_
  refine j_bipush hx dX12_isWorth_3 rfl ?_
  refine j_callS hx (c_X12_within hst x2 1 99) lk_RX12_314 [.int (zI x2), .int (zI 1), .int (zI 99)] ⟨rfl, hG, hS0, (by omega), (by omega), (by omega)⟩ rfl rfl ⟨by decide, by decide⟩ ⟨by decide, by decide⟩ (k2 := 0) (n2 := 0) rfl rfl (Nat.le_of_ble_eq_true rfl) dX12_isWorth_5 (kIP (fun v1 q2 => ?_))
  refine j_if_eq hx 45 dX12_isWorth_8 rfl (by omega) (fun h3 => ?_) (fun h3 => ?_)
  · skip
    refine j_iconst hx dX12_isWorth_45 ?_
    refine j_iconst hx dX12_isWorth_46 ?_
    refine j_iconst hx dX12_isWorth_47 ?_
    refine j_callV hx hG (c_X12_may_f hst a 0 1 1) lk_RX12_240 ha (by decide) rfl rfl rfl rfl [.int (zI 0), .int (zI 1), .int (zI 1)] ⟨rfl, hG, hS0, ha, (by omega), (by omega), (by omega), (by omega)⟩ rfl rfl ⟨by decide, by decide⟩ ⟨by decide, by decide⟩ (k2 := 0) (n2 := 0) rfl rfl (Nat.le_of_ble_eq_true rfl) dX12_isWorth_48 (kIM (fun v4 s1 hS_s1 hF_s1 q5 => ?_))
    exact j_zret hx hq rfl (by decide) (by decide) dX12_isWorth_51 (by omega) ⟨v4, rfl, rfl, hS_s1, (zFr_t zFr_rf hF_s1 (by decide)), ⟨(by omega), by omega⟩⟩
  · skip
    refine j_iload_n hx 1 dX12_isWorth_11 rfl ?_
    refine j_iconst hx dX12_isWorth_12 ?_
    refine j_iload_n hx 2 dX12_isWorth_13 rfl ?_
    refine j_callS hx (c_X12_within hst x1 0 x2) lk_RX12_314 [.int (zI x1), .int (zI 0), .int (zI x2)] ⟨rfl, hG, hS0, (by omega), (by omega), (by omega)⟩ rfl rfl ⟨by decide, by decide⟩ ⟨by decide, by decide⟩ (k2 := 0) (n2 := 0) rfl rfl (Nat.le_of_ble_eq_true rfl) dX12_isWorth_14 (kIP (fun v6 q7 => ?_))
    refine j_if_eq hx 45 dX12_isWorth_17 rfl (by omega) (fun h8 => ?_) (fun h8 => ?_)
    · skip
      refine j_iconst hx dX12_isWorth_45 ?_
      refine j_iconst hx dX12_isWorth_46 ?_
      refine j_iconst hx dX12_isWorth_47 ?_
      refine j_callV hx hG (c_X12_may_f hst a 0 1 1) lk_RX12_240 ha (by decide) rfl rfl rfl rfl [.int (zI 0), .int (zI 1), .int (zI 1)] ⟨rfl, hG, hS0, ha, (by omega), (by omega), (by omega), (by omega)⟩ rfl rfl ⟨by decide, by decide⟩ ⟨by decide, by decide⟩ (k2 := 0) (n2 := 0) rfl rfl (Nat.le_of_ble_eq_true rfl) dX12_isWorth_48 (kIM (fun v9 s2 hS_s2 hF_s2 q10 => ?_))
      exact j_zret hx hq rfl (by decide) (by decide) dX12_isWorth_51 (by omega) ⟨v9, rfl, rfl, hS_s2, (zFr_t zFr_rf hF_s2 (by decide)), ⟨(by omega), by omega⟩⟩
    · skip
      refine j_iload_n hx 3 dX12_isWorth_20 rfl ?_
      refine j_iconst hx dX12_isWorth_21 ?_
      refine j_bipush hx dX12_isWorth_22 rfl ?_
      refine j_callS hx (c_X12_within hst x3 0 99) lk_RX12_314 [.int (zI x3), .int (zI 0), .int (zI 99)] ⟨rfl, hG, hS0, (by omega), (by omega), (by omega)⟩ rfl rfl ⟨by decide, by decide⟩ ⟨by decide, by decide⟩ (k2 := 0) (n2 := 0) rfl rfl (Nat.le_of_ble_eq_true rfl) dX12_isWorth_24 (kIP (fun v11 q12 => ?_))
      refine j_if_eq hx 45 dX12_isWorth_27 rfl (by omega) (fun h13 => ?_) (fun h13 => ?_)
      · skip
        refine j_iconst hx dX12_isWorth_45 ?_
        refine j_iconst hx dX12_isWorth_46 ?_
        refine j_iconst hx dX12_isWorth_47 ?_
        refine j_callV hx hG (c_X12_may_f hst a 0 1 1) lk_RX12_240 ha (by decide) rfl rfl rfl rfl [.int (zI 0), .int (zI 1), .int (zI 1)] ⟨rfl, hG, hS0, ha, (by omega), (by omega), (by omega), (by omega)⟩ rfl rfl ⟨by decide, by decide⟩ ⟨by decide, by decide⟩ (k2 := 0) (n2 := 0) rfl rfl (Nat.le_of_ble_eq_true rfl) dX12_isWorth_48 (kIM (fun v14 s3 hS_s3 hF_s3 q15 => ?_))
        exact j_zret hx hq rfl (by decide) (by decide) dX12_isWorth_51 (by omega) ⟨v14, rfl, rfl, hS_s3, (zFr_t zFr_rf hF_s3 (by decide)), ⟨(by omega), by omega⟩⟩
      · skip
        refine j_iload hx 4 dX12_isWorth_30 rfl ?_
        refine j_iconst hx dX12_isWorth_32 ?_
        refine j_bipush hx dX12_isWorth_33 rfl ?_
        refine j_callS hx (c_X12_within hst x4 0 99) lk_RX12_314 [.int (zI x4), .int (zI 0), .int (zI 99)] ⟨rfl, hG, hS0, (by omega), (by omega), (by omega)⟩ rfl rfl ⟨by decide, by decide⟩ ⟨by decide, by decide⟩ (k2 := 0) (n2 := 0) rfl rfl (Nat.le_of_ble_eq_true rfl) dX12_isWorth_35 (kIP (fun v16 q17 => ?_))
        refine j_if_eq hx 45 dX12_isWorth_38 rfl (by omega) (fun h18 => ?_) (fun h18 => ?_)
        · skip
          refine j_iconst hx dX12_isWorth_45 ?_
          refine j_iconst hx dX12_isWorth_46 ?_
          refine j_iconst hx dX12_isWorth_47 ?_
          refine j_callV hx hG (c_X12_may_f hst a 0 1 1) lk_RX12_240 ha (by decide) rfl rfl rfl rfl [.int (zI 0), .int (zI 1), .int (zI 1)] ⟨rfl, hG, hS0, ha, (by omega), (by omega), (by omega), (by omega)⟩ rfl rfl ⟨by decide, by decide⟩ ⟨by decide, by decide⟩ (k2 := 0) (n2 := 0) rfl rfl (Nat.le_of_ble_eq_true rfl) dX12_isWorth_48 (kIM (fun v19 s4 hS_s4 hF_s4 q20 => ?_))
          exact j_zret hx hq rfl (by decide) (by decide) dX12_isWorth_51 (by omega) ⟨v19, rfl, rfl, hS_s4, (zFr_t zFr_rf hF_s4 (by decide)), ⟨(by omega), by omega⟩⟩
        · skip
          refine j_iconst hx dX12_isWorth_41 ?_
          refine j_goto hx 46 dX12_isWorth_42 rfl ?_
          refine j_iconst hx dX12_isWorth_46 ?_
          refine j_iconst hx dX12_isWorth_47 ?_
          refine j_callV hx hG (c_X12_may_t hst a 1 1 1) lk_RX12_240 ha (by decide) rfl rfl rfl rfl [.int (zI 1), .int (zI 1), .int (zI 1)] ⟨rfl, hG, hS0, ha, (by omega), (by omega), (by omega), (by omega)⟩ rfl rfl ⟨by decide, by decide⟩ ⟨by decide, by decide⟩ (k2 := 0) (n2 := 0) rfl rfl (Nat.le_of_ble_eq_true rfl) dX12_isWorth_48 (kIP (fun v21 q22 => ?_))
          exact j_zret hx hq rfl (by decide) (by decide) dX12_isWorth_51 (by omega) ⟨v21, rfl, rfl, hS0, zFr_rf, ⟨(by omega), by omega⟩⟩

theorem lk_RX12_465 : LkV RX12 465 RX12 yX12_isWorth cX12_isWorth 5 (some .boolean) 4 := ⟨km_RX12_465, ki_yX12_isWorth, ks_RX12_yX12_isWorth, kn_RX12, kc_yX12_isWorth, rfl, by decide +kernel, by decide +kernel, by decide +kernel⟩
set_option maxHeartbeats 4000000 in
set_option maxRecDepth 20000 in
theorem c_X12_waits {E : zE} {l : Launch} (hst : l.stackTraces = false) (a : Nat) (x1 : Int) (x2 : Int) (x3 : Int) (x4 : Int) : Con E l yX12_waits cX12_waits 6 (some .int) { frames := 2, cells := 0, slots := 0, locals := 47 } (fun G s vs => vs = [.ref a, .int (zI x1), .int (zI x2), .int (zI x3), .int (zI x4)] ∧ zGK G ∧ zSK G s ∧ (gT G a = 13) ∧ ((-2147483648) ≤ x1 ∧ x1 ≤ 2147483647) ∧ ((-2147483648) ≤ x2 ∧ x2 ≤ 2147483647) ∧ ((-2147483648) ≤ x3 ∧ x3 ≤ 2147483647) ∧ ((-2147483648) ≤ x4 ∧ x4 ≤ 2147483647) ∧ (zS0m G s)) (fun G s _ => pI (fun r G2 s2 => G2 = G ∧ zSK G s2 ∧ zFr [13, 71] G s s2 ∧ (0 ≤ r ∧ r ≤ 17) ∧ (((1 ≤ x2 ∧ x2 ≤ 99 ∧ 0 ≤ x1 ∧ x1 ≤ x2 ∧ 0 ≤ x3 ∧ x3 ≤ 99 ∧ 0 ≤ x4 ∧ x4 ≤ 99) → s2 a 0 = 0 ∧ ((r ≤ 16 → 16 * (x1 * x3 - (x2 - x1) * x4) ≤ r * (x1 * x3)) ∧ (1 ≤ r → (r - 1) * (x1 * x3) < 16 * (x1 * x3 - (x2 - x1) * x4)))) ∧ (¬ (1 ≤ x2 ∧ x2 ≤ 99 ∧ 0 ≤ x1 ∧ x1 ≤ x2 ∧ 0 ≤ x3 ∧ x3 ≤ 99 ∧ 0 ≤ x4 ∧ x4 ≤ 99) → s2 a 0 = 1)))) := by
  refine Con.mk hst (by decide) (fun G s vs h => by rw [h.1]; exact Nat.le_of_ble_eq_true rfl) ?_
  rintro X G s0 vs ⟨rfl, hG, hS0, ha, hx1, hx2, hx3, hx4, hF0⟩ rfl hx hq
  show JJ X E 6 G s0 0 0 [(0, .ref a), (1, .int (zI x1)), (2, .int (zI x2)), (3, .int (zI x3)), (4, .int (zI x4))] 0 []
  refine j_aload_n hx 0 dX12_waits_0 rfl ?_
  refine j_iconst hx dX12_waits_1 ?_
  refine p13_0 hx hG ha kf_RX12_3 dX12_waits_2 ?_
  obtain ⟨s1, e_s1⟩ : ∃ z, z = zU s0 a 0 0 := ⟨_, rfl⟩
  rw [← e_s1]
  have hS_s1 : zSK G s1 := by rw [e_s1]; exact zSK_F hS0 ha rfl rfl rfl (by omega)
  refine j_aload_n hx 0 dX12_waits_5 rfl ?_
  refine j_iload_n hx 1 dX12_waits_6 rfl ?_
  refine j_iload_n hx 2 dX12_waits_7 rfl ?_
  refine j_iload_n hx 3 dX12_waits_8 rfl ?_
  refine j_iload hx 4 dX12_waits_9 rfl ?_
  have g1 : s1 a 0 = 0 := (by rw [e_s1, zU_eq])
  refine j_callV hx hG (c_X12_isWorth hst a x1 x2 x3 x4) lk_RX12_465 ha (by decide) rfl rfl rfl rfl [.int (zI x1), .int (zI x2), .int (zI x3), .int (zI x4)] ⟨rfl, hG, hS_s1, ha, (by omega), (by omega), (by omega), (by omega), (((by rw [e_s1, zU_eq]) : s1 a 0 = 0).trans (by omega))⟩ rfl rfl ⟨by decide, by decide⟩ ⟨by decide, by decide⟩ (k2 := 0) (n2 := 0) rfl rfl (Nat.le_of_ble_eq_true rfl) dX12_waits_11 (kIM (fun v2 s2 hS_s2 hF_s2 q3 => ?_))
  refine j_if_ne hx 19 dX12_waits_14 rfl (by omega) (fun h4 => ?_) (fun h4 => ?_)
  · skip
    refine j_iconst hx dX12_waits_19 ?_
    refine j_istore hx [(5, .int (zI 0)), (0, .ref a), (1, .int (zI x1)), (2, .int (zI x2)), (3, .int (zI x3)), (4, .int (zI x4))] dX12_waits_20 (by decide) rfl ?_
    refine j_iload hx 0 dX12_waits_22 rfl ?_
    refine j_bipush hx dX12_waits_24 rfl ?_
    refine j_icmp_ge hx 57 dX12_waits_26 rfl ⟨by decide, by decide⟩ ⟨by decide, by decide⟩ (fun h5 => absurd h5 (by omega)) (fun h5 => ?_)
    refine j_iload hx 0 dX12_waits_29 rfl ?_
    refine j_iload_n hx 2 dX12_waits_31 rfl ?_
    refine j_imul hx (r := 0) dX12_waits_32 (by omega) ?_
    refine j_iload_n hx 4 dX12_waits_33 rfl ?_
    refine j_imul hx (r := 0) dX12_waits_34 (by omega) ?_
    refine j_bipush hx dX12_waits_35 rfl ?_
    refine j_iload_n hx 2 dX12_waits_37 rfl ?_
    refine j_iload_n hx 4 dX12_waits_38 rfl ?_
    refine j_imul hx (r := (x1 * x3)) dX12_waits_39 rfl ?_
    have f6 : 0 ≤ (x1 * x3) ∧ (x1 * x3) ≤ 99 * 99 := zmulnn (by omega) (by omega)
    refine j_iload_n hx 3 dX12_waits_40 rfl ?_
    refine j_iload_n hx 2 dX12_waits_41 rfl ?_
    refine j_isub hx (r := x2 - x1) dX12_waits_42 rfl ?_
    refine j_iload hx 5 dX12_waits_43 rfl ?_
    refine j_imul hx (r := ((x2 - x1) * x4)) dX12_waits_45 rfl ?_
    have f7 : 0 ≤ ((x2 - x1) * x4) ∧ ((x2 - x1) * x4) ≤ 99 * 99 := zmulnn (by omega) (by omega)
    refine j_isub hx (r := (x1 * x3) - ((x2 - x1) * x4)) dX12_waits_46 (by omega) ?_
    refine j_imul hx (r := 16 * (x1 * x3) - 16 * ((x2 - x1) * x4)) dX12_waits_47 (by omega) ?_
    refine j_icmp_ge hx 57 dX12_waits_48 rfl ⟨by decide, by decide⟩ (by omega) (fun h8 => ?_) (fun h8 => ?_)
    · skip
      refine j_iload hx 0 dX12_waits_57 rfl ?_
      have f9 := zf hS_s2 ha (k := 0) rfl
      exact j_iret hx hq rfl (by decide) (by decide) dX12_waits_59 ⟨0, rfl, rfl, hS_s2, (zFr_t (zFr_u zFr_rf e_s1 ha (by decide)) hF_s2 (by decide)), ⟨(by omega), by omega⟩⟩
    · skip
      refine j_iinc hx 0 [(5, .int (zI 1)), (0, .ref a), (1, .int (zI x1)), (2, .int (zI x2)), (3, .int (zI x3)), (4, .int (zI x4))] dX12_waits_51 rfl (by omega) (by decide) rfl ?_
      refine j_goto hx 22 dX12_waits_54 rfl ?_
      refine j_iload hx 0 dX12_waits_22 rfl ?_
      refine j_bipush hx dX12_waits_24 rfl ?_
      refine j_icmp_ge hx 57 dX12_waits_26 rfl ⟨by decide, by decide⟩ ⟨by decide, by decide⟩ (fun h10 => absurd h10 (by omega)) (fun h10 => ?_)
      refine j_iload hx 0 dX12_waits_29 rfl ?_
      refine j_iload_n hx 2 dX12_waits_31 rfl ?_
      refine j_imul hx (r := x1) dX12_waits_32 (by omega) ?_
      refine j_iload_n hx 4 dX12_waits_33 rfl ?_
      refine j_imul hx (r := (x1 * x3)) dX12_waits_34 rfl ?_
      refine j_bipush hx dX12_waits_35 rfl ?_
      refine j_iload_n hx 2 dX12_waits_37 rfl ?_
      refine j_iload_n hx 4 dX12_waits_38 rfl ?_
      refine j_imul hx (r := (x1 * x3)) dX12_waits_39 rfl ?_
      refine j_iload_n hx 3 dX12_waits_40 rfl ?_
      refine j_iload_n hx 2 dX12_waits_41 rfl ?_
      refine j_isub hx (r := x2 - x1) dX12_waits_42 rfl ?_
      refine j_iload hx 5 dX12_waits_43 rfl ?_
      refine j_imul hx (r := ((x2 - x1) * x4)) dX12_waits_45 rfl ?_
      refine j_isub hx (r := (x1 * x3) - ((x2 - x1) * x4)) dX12_waits_46 (by omega) ?_
      refine j_imul hx (r := 16 * (x1 * x3) - 16 * ((x2 - x1) * x4)) dX12_waits_47 (by omega) ?_
      refine j_icmp_ge hx 57 dX12_waits_48 rfl (by omega) (by omega) (fun h11 => ?_) (fun h11 => ?_)
      · skip
        refine j_iload hx 0 dX12_waits_57 rfl ?_
        have f12 := zf hS_s2 ha (k := 0) rfl
        exact j_iret hx hq rfl (by decide) (by decide) dX12_waits_59 ⟨1, rfl, rfl, hS_s2, (zFr_t (zFr_u zFr_rf e_s1 ha (by decide)) hF_s2 (by decide)), ⟨(by omega), by omega⟩⟩
      · skip
        refine j_iinc hx 0 [(5, .int (zI 2)), (0, .ref a), (1, .int (zI x1)), (2, .int (zI x2)), (3, .int (zI x3)), (4, .int (zI x4))] dX12_waits_51 rfl (by omega) (by decide) rfl ?_
        refine j_goto hx 22 dX12_waits_54 rfl ?_
        refine j_iload hx 0 dX12_waits_22 rfl ?_
        refine j_bipush hx dX12_waits_24 rfl ?_
        refine j_icmp_ge hx 57 dX12_waits_26 rfl ⟨by decide, by decide⟩ ⟨by decide, by decide⟩ (fun h13 => absurd h13 (by omega)) (fun h13 => ?_)
        refine j_iload hx 0 dX12_waits_29 rfl ?_
        refine j_iload_n hx 2 dX12_waits_31 rfl ?_
        refine j_imul hx (r := 2 * x1) dX12_waits_32 rfl ?_
        refine j_iload_n hx 4 dX12_waits_33 rfl ?_
        refine j_imul hx (r := 2 * (x1 * x3)) dX12_waits_34 (by rw [Int.mul_assoc]) ?_
        refine j_bipush hx dX12_waits_35 rfl ?_
        refine j_iload_n hx 2 dX12_waits_37 rfl ?_
        refine j_iload_n hx 4 dX12_waits_38 rfl ?_
        refine j_imul hx (r := (x1 * x3)) dX12_waits_39 rfl ?_
        refine j_iload_n hx 3 dX12_waits_40 rfl ?_
        refine j_iload_n hx 2 dX12_waits_41 rfl ?_
        refine j_isub hx (r := x2 - x1) dX12_waits_42 rfl ?_
        refine j_iload hx 5 dX12_waits_43 rfl ?_
        refine j_imul hx (r := ((x2 - x1) * x4)) dX12_waits_45 rfl ?_
        refine j_isub hx (r := (x1 * x3) - ((x2 - x1) * x4)) dX12_waits_46 (by omega) ?_
        refine j_imul hx (r := 16 * (x1 * x3) - 16 * ((x2 - x1) * x4)) dX12_waits_47 (by omega) ?_
        refine j_icmp_ge hx 57 dX12_waits_48 rfl (by omega) (by omega) (fun h14 => ?_) (fun h14 => ?_)
        · skip
          refine j_iload hx 0 dX12_waits_57 rfl ?_
          have f15 := zf hS_s2 ha (k := 0) rfl
          exact j_iret hx hq rfl (by decide) (by decide) dX12_waits_59 ⟨2, rfl, rfl, hS_s2, (zFr_t (zFr_u zFr_rf e_s1 ha (by decide)) hF_s2 (by decide)), ⟨(by omega), by omega⟩⟩
        · skip
          refine j_iinc hx 0 [(5, .int (zI 3)), (0, .ref a), (1, .int (zI x1)), (2, .int (zI x2)), (3, .int (zI x3)), (4, .int (zI x4))] dX12_waits_51 rfl (by omega) (by decide) rfl ?_
          refine j_goto hx 22 dX12_waits_54 rfl ?_
          refine j_iload hx 0 dX12_waits_22 rfl ?_
          refine j_bipush hx dX12_waits_24 rfl ?_
          refine j_icmp_ge hx 57 dX12_waits_26 rfl ⟨by decide, by decide⟩ ⟨by decide, by decide⟩ (fun h16 => absurd h16 (by omega)) (fun h16 => ?_)
          refine j_iload hx 0 dX12_waits_29 rfl ?_
          refine j_iload_n hx 2 dX12_waits_31 rfl ?_
          refine j_imul hx (r := 3 * x1) dX12_waits_32 rfl ?_
          refine j_iload_n hx 4 dX12_waits_33 rfl ?_
          refine j_imul hx (r := 3 * (x1 * x3)) dX12_waits_34 (by rw [Int.mul_assoc]) ?_
          refine j_bipush hx dX12_waits_35 rfl ?_
          refine j_iload_n hx 2 dX12_waits_37 rfl ?_
          refine j_iload_n hx 4 dX12_waits_38 rfl ?_
          refine j_imul hx (r := (x1 * x3)) dX12_waits_39 rfl ?_
          refine j_iload_n hx 3 dX12_waits_40 rfl ?_
          refine j_iload_n hx 2 dX12_waits_41 rfl ?_
          refine j_isub hx (r := x2 - x1) dX12_waits_42 rfl ?_
          refine j_iload hx 5 dX12_waits_43 rfl ?_
          refine j_imul hx (r := ((x2 - x1) * x4)) dX12_waits_45 rfl ?_
          refine j_isub hx (r := (x1 * x3) - ((x2 - x1) * x4)) dX12_waits_46 (by omega) ?_
          refine j_imul hx (r := 16 * (x1 * x3) - 16 * ((x2 - x1) * x4)) dX12_waits_47 (by omega) ?_
          refine j_icmp_ge hx 57 dX12_waits_48 rfl (by omega) (by omega) (fun h17 => ?_) (fun h17 => ?_)
          · skip
            refine j_iload hx 0 dX12_waits_57 rfl ?_
            have f18 := zf hS_s2 ha (k := 0) rfl
            exact j_iret hx hq rfl (by decide) (by decide) dX12_waits_59 ⟨3, rfl, rfl, hS_s2, (zFr_t (zFr_u zFr_rf e_s1 ha (by decide)) hF_s2 (by decide)), ⟨(by omega), by omega⟩⟩
          · skip
            refine j_iinc hx 0 [(5, .int (zI 4)), (0, .ref a), (1, .int (zI x1)), (2, .int (zI x2)), (3, .int (zI x3)), (4, .int (zI x4))] dX12_waits_51 rfl (by omega) (by decide) rfl ?_
            refine j_goto hx 22 dX12_waits_54 rfl ?_
            refine j_iload hx 0 dX12_waits_22 rfl ?_
            refine j_bipush hx dX12_waits_24 rfl ?_
            refine j_icmp_ge hx 57 dX12_waits_26 rfl ⟨by decide, by decide⟩ ⟨by decide, by decide⟩ (fun h19 => absurd h19 (by omega)) (fun h19 => ?_)
            refine j_iload hx 0 dX12_waits_29 rfl ?_
            refine j_iload_n hx 2 dX12_waits_31 rfl ?_
            refine j_imul hx (r := 4 * x1) dX12_waits_32 rfl ?_
            refine j_iload_n hx 4 dX12_waits_33 rfl ?_
            refine j_imul hx (r := 4 * (x1 * x3)) dX12_waits_34 (by rw [Int.mul_assoc]) ?_
            refine j_bipush hx dX12_waits_35 rfl ?_
            refine j_iload_n hx 2 dX12_waits_37 rfl ?_
            refine j_iload_n hx 4 dX12_waits_38 rfl ?_
            refine j_imul hx (r := (x1 * x3)) dX12_waits_39 rfl ?_
            refine j_iload_n hx 3 dX12_waits_40 rfl ?_
            refine j_iload_n hx 2 dX12_waits_41 rfl ?_
            refine j_isub hx (r := x2 - x1) dX12_waits_42 rfl ?_
            refine j_iload hx 5 dX12_waits_43 rfl ?_
            refine j_imul hx (r := ((x2 - x1) * x4)) dX12_waits_45 rfl ?_
            refine j_isub hx (r := (x1 * x3) - ((x2 - x1) * x4)) dX12_waits_46 (by omega) ?_
            refine j_imul hx (r := 16 * (x1 * x3) - 16 * ((x2 - x1) * x4)) dX12_waits_47 (by omega) ?_
            refine j_icmp_ge hx 57 dX12_waits_48 rfl (by omega) (by omega) (fun h20 => ?_) (fun h20 => ?_)
            · skip
              refine j_iload hx 0 dX12_waits_57 rfl ?_
              have f21 := zf hS_s2 ha (k := 0) rfl
              exact j_iret hx hq rfl (by decide) (by decide) dX12_waits_59 ⟨4, rfl, rfl, hS_s2, (zFr_t (zFr_u zFr_rf e_s1 ha (by decide)) hF_s2 (by decide)), ⟨(by omega), by omega⟩⟩
            · skip
              refine j_iinc hx 0 [(5, .int (zI 5)), (0, .ref a), (1, .int (zI x1)), (2, .int (zI x2)), (3, .int (zI x3)), (4, .int (zI x4))] dX12_waits_51 rfl (by omega) (by decide) rfl ?_
              refine j_goto hx 22 dX12_waits_54 rfl ?_
              refine j_iload hx 0 dX12_waits_22 rfl ?_
              refine j_bipush hx dX12_waits_24 rfl ?_
              refine j_icmp_ge hx 57 dX12_waits_26 rfl ⟨by decide, by decide⟩ ⟨by decide, by decide⟩ (fun h22 => absurd h22 (by omega)) (fun h22 => ?_)
              refine j_iload hx 0 dX12_waits_29 rfl ?_
              refine j_iload_n hx 2 dX12_waits_31 rfl ?_
              refine j_imul hx (r := 5 * x1) dX12_waits_32 rfl ?_
              refine j_iload_n hx 4 dX12_waits_33 rfl ?_
              refine j_imul hx (r := 5 * (x1 * x3)) dX12_waits_34 (by rw [Int.mul_assoc]) ?_
              refine j_bipush hx dX12_waits_35 rfl ?_
              refine j_iload_n hx 2 dX12_waits_37 rfl ?_
              refine j_iload_n hx 4 dX12_waits_38 rfl ?_
              refine j_imul hx (r := (x1 * x3)) dX12_waits_39 rfl ?_
              refine j_iload_n hx 3 dX12_waits_40 rfl ?_
              refine j_iload_n hx 2 dX12_waits_41 rfl ?_
              refine j_isub hx (r := x2 - x1) dX12_waits_42 rfl ?_
              refine j_iload hx 5 dX12_waits_43 rfl ?_
              refine j_imul hx (r := ((x2 - x1) * x4)) dX12_waits_45 rfl ?_
              refine j_isub hx (r := (x1 * x3) - ((x2 - x1) * x4)) dX12_waits_46 (by omega) ?_
              refine j_imul hx (r := 16 * (x1 * x3) - 16 * ((x2 - x1) * x4)) dX12_waits_47 (by omega) ?_
              refine j_icmp_ge hx 57 dX12_waits_48 rfl (by omega) (by omega) (fun h23 => ?_) (fun h23 => ?_)
              · skip
                refine j_iload hx 0 dX12_waits_57 rfl ?_
                have f24 := zf hS_s2 ha (k := 0) rfl
                exact j_iret hx hq rfl (by decide) (by decide) dX12_waits_59 ⟨5, rfl, rfl, hS_s2, (zFr_t (zFr_u zFr_rf e_s1 ha (by decide)) hF_s2 (by decide)), ⟨(by omega), by omega⟩⟩
              · skip
                refine j_iinc hx 0 [(5, .int (zI 6)), (0, .ref a), (1, .int (zI x1)), (2, .int (zI x2)), (3, .int (zI x3)), (4, .int (zI x4))] dX12_waits_51 rfl (by omega) (by decide) rfl ?_
                refine j_goto hx 22 dX12_waits_54 rfl ?_
                refine j_iload hx 0 dX12_waits_22 rfl ?_
                refine j_bipush hx dX12_waits_24 rfl ?_
                refine j_icmp_ge hx 57 dX12_waits_26 rfl ⟨by decide, by decide⟩ ⟨by decide, by decide⟩ (fun h25 => absurd h25 (by omega)) (fun h25 => ?_)
                refine j_iload hx 0 dX12_waits_29 rfl ?_
                refine j_iload_n hx 2 dX12_waits_31 rfl ?_
                refine j_imul hx (r := 6 * x1) dX12_waits_32 rfl ?_
                refine j_iload_n hx 4 dX12_waits_33 rfl ?_
                refine j_imul hx (r := 6 * (x1 * x3)) dX12_waits_34 (by rw [Int.mul_assoc]) ?_
                refine j_bipush hx dX12_waits_35 rfl ?_
                refine j_iload_n hx 2 dX12_waits_37 rfl ?_
                refine j_iload_n hx 4 dX12_waits_38 rfl ?_
                refine j_imul hx (r := (x1 * x3)) dX12_waits_39 rfl ?_
                refine j_iload_n hx 3 dX12_waits_40 rfl ?_
                refine j_iload_n hx 2 dX12_waits_41 rfl ?_
                refine j_isub hx (r := x2 - x1) dX12_waits_42 rfl ?_
                refine j_iload hx 5 dX12_waits_43 rfl ?_
                refine j_imul hx (r := ((x2 - x1) * x4)) dX12_waits_45 rfl ?_
                refine j_isub hx (r := (x1 * x3) - ((x2 - x1) * x4)) dX12_waits_46 (by omega) ?_
                refine j_imul hx (r := 16 * (x1 * x3) - 16 * ((x2 - x1) * x4)) dX12_waits_47 (by omega) ?_
                refine j_icmp_ge hx 57 dX12_waits_48 rfl (by omega) (by omega) (fun h26 => ?_) (fun h26 => ?_)
                · skip
                  refine j_iload hx 0 dX12_waits_57 rfl ?_
                  have f27 := zf hS_s2 ha (k := 0) rfl
                  exact j_iret hx hq rfl (by decide) (by decide) dX12_waits_59 ⟨6, rfl, rfl, hS_s2, (zFr_t (zFr_u zFr_rf e_s1 ha (by decide)) hF_s2 (by decide)), ⟨(by omega), by omega⟩⟩
                · skip
                  refine j_iinc hx 0 [(5, .int (zI 7)), (0, .ref a), (1, .int (zI x1)), (2, .int (zI x2)), (3, .int (zI x3)), (4, .int (zI x4))] dX12_waits_51 rfl (by omega) (by decide) rfl ?_
                  refine j_goto hx 22 dX12_waits_54 rfl ?_
                  refine j_iload hx 0 dX12_waits_22 rfl ?_
                  refine j_bipush hx dX12_waits_24 rfl ?_
                  refine j_icmp_ge hx 57 dX12_waits_26 rfl ⟨by decide, by decide⟩ ⟨by decide, by decide⟩ (fun h28 => absurd h28 (by omega)) (fun h28 => ?_)
                  refine j_iload hx 0 dX12_waits_29 rfl ?_
                  refine j_iload_n hx 2 dX12_waits_31 rfl ?_
                  refine j_imul hx (r := 7 * x1) dX12_waits_32 rfl ?_
                  refine j_iload_n hx 4 dX12_waits_33 rfl ?_
                  refine j_imul hx (r := 7 * (x1 * x3)) dX12_waits_34 (by rw [Int.mul_assoc]) ?_
                  refine j_bipush hx dX12_waits_35 rfl ?_
                  refine j_iload_n hx 2 dX12_waits_37 rfl ?_
                  refine j_iload_n hx 4 dX12_waits_38 rfl ?_
                  refine j_imul hx (r := (x1 * x3)) dX12_waits_39 rfl ?_
                  refine j_iload_n hx 3 dX12_waits_40 rfl ?_
                  refine j_iload_n hx 2 dX12_waits_41 rfl ?_
                  refine j_isub hx (r := x2 - x1) dX12_waits_42 rfl ?_
                  refine j_iload hx 5 dX12_waits_43 rfl ?_
                  refine j_imul hx (r := ((x2 - x1) * x4)) dX12_waits_45 rfl ?_
                  refine j_isub hx (r := (x1 * x3) - ((x2 - x1) * x4)) dX12_waits_46 (by omega) ?_
                  refine j_imul hx (r := 16 * (x1 * x3) - 16 * ((x2 - x1) * x4)) dX12_waits_47 (by omega) ?_
                  refine j_icmp_ge hx 57 dX12_waits_48 rfl (by omega) (by omega) (fun h29 => ?_) (fun h29 => ?_)
                  · skip
                    refine j_iload hx 0 dX12_waits_57 rfl ?_
                    have f30 := zf hS_s2 ha (k := 0) rfl
                    exact j_iret hx hq rfl (by decide) (by decide) dX12_waits_59 ⟨7, rfl, rfl, hS_s2, (zFr_t (zFr_u zFr_rf e_s1 ha (by decide)) hF_s2 (by decide)), ⟨(by omega), by omega⟩⟩
                  · skip
                    refine j_iinc hx 0 [(5, .int (zI 8)), (0, .ref a), (1, .int (zI x1)), (2, .int (zI x2)), (3, .int (zI x3)), (4, .int (zI x4))] dX12_waits_51 rfl (by omega) (by decide) rfl ?_
                    refine j_goto hx 22 dX12_waits_54 rfl ?_
                    refine j_iload hx 0 dX12_waits_22 rfl ?_
                    refine j_bipush hx dX12_waits_24 rfl ?_
                    refine j_icmp_ge hx 57 dX12_waits_26 rfl ⟨by decide, by decide⟩ ⟨by decide, by decide⟩ (fun h31 => absurd h31 (by omega)) (fun h31 => ?_)
                    refine j_iload hx 0 dX12_waits_29 rfl ?_
                    refine j_iload_n hx 2 dX12_waits_31 rfl ?_
                    refine j_imul hx (r := 8 * x1) dX12_waits_32 rfl ?_
                    refine j_iload_n hx 4 dX12_waits_33 rfl ?_
                    refine j_imul hx (r := 8 * (x1 * x3)) dX12_waits_34 (by rw [Int.mul_assoc]) ?_
                    refine j_bipush hx dX12_waits_35 rfl ?_
                    refine j_iload_n hx 2 dX12_waits_37 rfl ?_
                    refine j_iload_n hx 4 dX12_waits_38 rfl ?_
                    refine j_imul hx (r := (x1 * x3)) dX12_waits_39 rfl ?_
                    refine j_iload_n hx 3 dX12_waits_40 rfl ?_
                    refine j_iload_n hx 2 dX12_waits_41 rfl ?_
                    refine j_isub hx (r := x2 - x1) dX12_waits_42 rfl ?_
                    refine j_iload hx 5 dX12_waits_43 rfl ?_
                    refine j_imul hx (r := ((x2 - x1) * x4)) dX12_waits_45 rfl ?_
                    refine j_isub hx (r := (x1 * x3) - ((x2 - x1) * x4)) dX12_waits_46 (by omega) ?_
                    refine j_imul hx (r := 16 * (x1 * x3) - 16 * ((x2 - x1) * x4)) dX12_waits_47 (by omega) ?_
                    refine j_icmp_ge hx 57 dX12_waits_48 rfl (by omega) (by omega) (fun h32 => ?_) (fun h32 => ?_)
                    · skip
                      refine j_iload hx 0 dX12_waits_57 rfl ?_
                      have f33 := zf hS_s2 ha (k := 0) rfl
                      exact j_iret hx hq rfl (by decide) (by decide) dX12_waits_59 ⟨8, rfl, rfl, hS_s2, (zFr_t (zFr_u zFr_rf e_s1 ha (by decide)) hF_s2 (by decide)), ⟨(by omega), by omega⟩⟩
                    · skip
                      refine j_iinc hx 0 [(5, .int (zI 9)), (0, .ref a), (1, .int (zI x1)), (2, .int (zI x2)), (3, .int (zI x3)), (4, .int (zI x4))] dX12_waits_51 rfl (by omega) (by decide) rfl ?_
                      refine j_goto hx 22 dX12_waits_54 rfl ?_
                      refine j_iload hx 0 dX12_waits_22 rfl ?_
                      refine j_bipush hx dX12_waits_24 rfl ?_
                      refine j_icmp_ge hx 57 dX12_waits_26 rfl ⟨by decide, by decide⟩ ⟨by decide, by decide⟩ (fun h34 => absurd h34 (by omega)) (fun h34 => ?_)
                      refine j_iload hx 0 dX12_waits_29 rfl ?_
                      refine j_iload_n hx 2 dX12_waits_31 rfl ?_
                      refine j_imul hx (r := 9 * x1) dX12_waits_32 rfl ?_
                      refine j_iload_n hx 4 dX12_waits_33 rfl ?_
                      refine j_imul hx (r := 9 * (x1 * x3)) dX12_waits_34 (by rw [Int.mul_assoc]) ?_
                      refine j_bipush hx dX12_waits_35 rfl ?_
                      refine j_iload_n hx 2 dX12_waits_37 rfl ?_
                      refine j_iload_n hx 4 dX12_waits_38 rfl ?_
                      refine j_imul hx (r := (x1 * x3)) dX12_waits_39 rfl ?_
                      refine j_iload_n hx 3 dX12_waits_40 rfl ?_
                      refine j_iload_n hx 2 dX12_waits_41 rfl ?_
                      refine j_isub hx (r := x2 - x1) dX12_waits_42 rfl ?_
                      refine j_iload hx 5 dX12_waits_43 rfl ?_
                      refine j_imul hx (r := ((x2 - x1) * x4)) dX12_waits_45 rfl ?_
                      refine j_isub hx (r := (x1 * x3) - ((x2 - x1) * x4)) dX12_waits_46 (by omega) ?_
                      refine j_imul hx (r := 16 * (x1 * x3) - 16 * ((x2 - x1) * x4)) dX12_waits_47 (by omega) ?_
                      refine j_icmp_ge hx 57 dX12_waits_48 rfl (by omega) (by omega) (fun h35 => ?_) (fun h35 => ?_)
                      · skip
                        refine j_iload hx 0 dX12_waits_57 rfl ?_
                        have f36 := zf hS_s2 ha (k := 0) rfl
                        exact j_iret hx hq rfl (by decide) (by decide) dX12_waits_59 ⟨9, rfl, rfl, hS_s2, (zFr_t (zFr_u zFr_rf e_s1 ha (by decide)) hF_s2 (by decide)), ⟨(by omega), by omega⟩⟩
                      · skip
                        refine j_iinc hx 0 [(5, .int (zI 10)), (0, .ref a), (1, .int (zI x1)), (2, .int (zI x2)), (3, .int (zI x3)), (4, .int (zI x4))] dX12_waits_51 rfl (by omega) (by decide) rfl ?_
                        refine j_goto hx 22 dX12_waits_54 rfl ?_
                        refine j_iload hx 0 dX12_waits_22 rfl ?_
                        refine j_bipush hx dX12_waits_24 rfl ?_
                        refine j_icmp_ge hx 57 dX12_waits_26 rfl ⟨by decide, by decide⟩ ⟨by decide, by decide⟩ (fun h37 => absurd h37 (by omega)) (fun h37 => ?_)
                        refine j_iload hx 0 dX12_waits_29 rfl ?_
                        refine j_iload_n hx 2 dX12_waits_31 rfl ?_
                        refine j_imul hx (r := 10 * x1) dX12_waits_32 rfl ?_
                        refine j_iload_n hx 4 dX12_waits_33 rfl ?_
                        refine j_imul hx (r := 10 * (x1 * x3)) dX12_waits_34 (by rw [Int.mul_assoc]) ?_
                        refine j_bipush hx dX12_waits_35 rfl ?_
                        refine j_iload_n hx 2 dX12_waits_37 rfl ?_
                        refine j_iload_n hx 4 dX12_waits_38 rfl ?_
                        refine j_imul hx (r := (x1 * x3)) dX12_waits_39 rfl ?_
                        refine j_iload_n hx 3 dX12_waits_40 rfl ?_
                        refine j_iload_n hx 2 dX12_waits_41 rfl ?_
                        refine j_isub hx (r := x2 - x1) dX12_waits_42 rfl ?_
                        refine j_iload hx 5 dX12_waits_43 rfl ?_
                        refine j_imul hx (r := ((x2 - x1) * x4)) dX12_waits_45 rfl ?_
                        refine j_isub hx (r := (x1 * x3) - ((x2 - x1) * x4)) dX12_waits_46 (by omega) ?_
                        refine j_imul hx (r := 16 * (x1 * x3) - 16 * ((x2 - x1) * x4)) dX12_waits_47 (by omega) ?_
                        refine j_icmp_ge hx 57 dX12_waits_48 rfl (by omega) (by omega) (fun h38 => ?_) (fun h38 => ?_)
                        · skip
                          refine j_iload hx 0 dX12_waits_57 rfl ?_
                          have f39 := zf hS_s2 ha (k := 0) rfl
                          exact j_iret hx hq rfl (by decide) (by decide) dX12_waits_59 ⟨10, rfl, rfl, hS_s2, (zFr_t (zFr_u zFr_rf e_s1 ha (by decide)) hF_s2 (by decide)), ⟨(by omega), by omega⟩⟩
                        · skip
                          refine j_iinc hx 0 [(5, .int (zI 11)), (0, .ref a), (1, .int (zI x1)), (2, .int (zI x2)), (3, .int (zI x3)), (4, .int (zI x4))] dX12_waits_51 rfl (by omega) (by decide) rfl ?_
                          refine j_goto hx 22 dX12_waits_54 rfl ?_
                          refine j_iload hx 0 dX12_waits_22 rfl ?_
                          refine j_bipush hx dX12_waits_24 rfl ?_
                          refine j_icmp_ge hx 57 dX12_waits_26 rfl ⟨by decide, by decide⟩ ⟨by decide, by decide⟩ (fun h40 => absurd h40 (by omega)) (fun h40 => ?_)
                          refine j_iload hx 0 dX12_waits_29 rfl ?_
                          refine j_iload_n hx 2 dX12_waits_31 rfl ?_
                          refine j_imul hx (r := 11 * x1) dX12_waits_32 rfl ?_
                          refine j_iload_n hx 4 dX12_waits_33 rfl ?_
                          refine j_imul hx (r := 11 * (x1 * x3)) dX12_waits_34 (by rw [Int.mul_assoc]) ?_
                          refine j_bipush hx dX12_waits_35 rfl ?_
                          refine j_iload_n hx 2 dX12_waits_37 rfl ?_
                          refine j_iload_n hx 4 dX12_waits_38 rfl ?_
                          refine j_imul hx (r := (x1 * x3)) dX12_waits_39 rfl ?_
                          refine j_iload_n hx 3 dX12_waits_40 rfl ?_
                          refine j_iload_n hx 2 dX12_waits_41 rfl ?_
                          refine j_isub hx (r := x2 - x1) dX12_waits_42 rfl ?_
                          refine j_iload hx 5 dX12_waits_43 rfl ?_
                          refine j_imul hx (r := ((x2 - x1) * x4)) dX12_waits_45 rfl ?_
                          refine j_isub hx (r := (x1 * x3) - ((x2 - x1) * x4)) dX12_waits_46 (by omega) ?_
                          refine j_imul hx (r := 16 * (x1 * x3) - 16 * ((x2 - x1) * x4)) dX12_waits_47 (by omega) ?_
                          refine j_icmp_ge hx 57 dX12_waits_48 rfl (by omega) (by omega) (fun h41 => ?_) (fun h41 => ?_)
                          · skip
                            refine j_iload hx 0 dX12_waits_57 rfl ?_
                            have f42 := zf hS_s2 ha (k := 0) rfl
                            exact j_iret hx hq rfl (by decide) (by decide) dX12_waits_59 ⟨11, rfl, rfl, hS_s2, (zFr_t (zFr_u zFr_rf e_s1 ha (by decide)) hF_s2 (by decide)), ⟨(by omega), by omega⟩⟩
                          · skip
                            refine j_iinc hx 0 [(5, .int (zI 12)), (0, .ref a), (1, .int (zI x1)), (2, .int (zI x2)), (3, .int (zI x3)), (4, .int (zI x4))] dX12_waits_51 rfl (by omega) (by decide) rfl ?_
                            refine j_goto hx 22 dX12_waits_54 rfl ?_
                            refine j_iload hx 0 dX12_waits_22 rfl ?_
                            refine j_bipush hx dX12_waits_24 rfl ?_
                            refine j_icmp_ge hx 57 dX12_waits_26 rfl ⟨by decide, by decide⟩ ⟨by decide, by decide⟩ (fun h43 => absurd h43 (by omega)) (fun h43 => ?_)
                            refine j_iload hx 0 dX12_waits_29 rfl ?_
                            refine j_iload_n hx 2 dX12_waits_31 rfl ?_
                            refine j_imul hx (r := 12 * x1) dX12_waits_32 rfl ?_
                            refine j_iload_n hx 4 dX12_waits_33 rfl ?_
                            refine j_imul hx (r := 12 * (x1 * x3)) dX12_waits_34 (by rw [Int.mul_assoc]) ?_
                            refine j_bipush hx dX12_waits_35 rfl ?_
                            refine j_iload_n hx 2 dX12_waits_37 rfl ?_
                            refine j_iload_n hx 4 dX12_waits_38 rfl ?_
                            refine j_imul hx (r := (x1 * x3)) dX12_waits_39 rfl ?_
                            refine j_iload_n hx 3 dX12_waits_40 rfl ?_
                            refine j_iload_n hx 2 dX12_waits_41 rfl ?_
                            refine j_isub hx (r := x2 - x1) dX12_waits_42 rfl ?_
                            refine j_iload hx 5 dX12_waits_43 rfl ?_
                            refine j_imul hx (r := ((x2 - x1) * x4)) dX12_waits_45 rfl ?_
                            refine j_isub hx (r := (x1 * x3) - ((x2 - x1) * x4)) dX12_waits_46 (by omega) ?_
                            refine j_imul hx (r := 16 * (x1 * x3) - 16 * ((x2 - x1) * x4)) dX12_waits_47 (by omega) ?_
                            refine j_icmp_ge hx 57 dX12_waits_48 rfl (by omega) (by omega) (fun h44 => ?_) (fun h44 => ?_)
                            · skip
                              refine j_iload hx 0 dX12_waits_57 rfl ?_
                              have f45 := zf hS_s2 ha (k := 0) rfl
                              exact j_iret hx hq rfl (by decide) (by decide) dX12_waits_59 ⟨12, rfl, rfl, hS_s2, (zFr_t (zFr_u zFr_rf e_s1 ha (by decide)) hF_s2 (by decide)), ⟨(by omega), by omega⟩⟩
                            · skip
                              refine j_iinc hx 0 [(5, .int (zI 13)), (0, .ref a), (1, .int (zI x1)), (2, .int (zI x2)), (3, .int (zI x3)), (4, .int (zI x4))] dX12_waits_51 rfl (by omega) (by decide) rfl ?_
                              refine j_goto hx 22 dX12_waits_54 rfl ?_
                              refine j_iload hx 0 dX12_waits_22 rfl ?_
                              refine j_bipush hx dX12_waits_24 rfl ?_
                              refine j_icmp_ge hx 57 dX12_waits_26 rfl ⟨by decide, by decide⟩ ⟨by decide, by decide⟩ (fun h46 => absurd h46 (by omega)) (fun h46 => ?_)
                              refine j_iload hx 0 dX12_waits_29 rfl ?_
                              refine j_iload_n hx 2 dX12_waits_31 rfl ?_
                              refine j_imul hx (r := 13 * x1) dX12_waits_32 rfl ?_
                              refine j_iload_n hx 4 dX12_waits_33 rfl ?_
                              refine j_imul hx (r := 13 * (x1 * x3)) dX12_waits_34 (by rw [Int.mul_assoc]) ?_
                              refine j_bipush hx dX12_waits_35 rfl ?_
                              refine j_iload_n hx 2 dX12_waits_37 rfl ?_
                              refine j_iload_n hx 4 dX12_waits_38 rfl ?_
                              refine j_imul hx (r := (x1 * x3)) dX12_waits_39 rfl ?_
                              refine j_iload_n hx 3 dX12_waits_40 rfl ?_
                              refine j_iload_n hx 2 dX12_waits_41 rfl ?_
                              refine j_isub hx (r := x2 - x1) dX12_waits_42 rfl ?_
                              refine j_iload hx 5 dX12_waits_43 rfl ?_
                              refine j_imul hx (r := ((x2 - x1) * x4)) dX12_waits_45 rfl ?_
                              refine j_isub hx (r := (x1 * x3) - ((x2 - x1) * x4)) dX12_waits_46 (by omega) ?_
                              refine j_imul hx (r := 16 * (x1 * x3) - 16 * ((x2 - x1) * x4)) dX12_waits_47 (by omega) ?_
                              refine j_icmp_ge hx 57 dX12_waits_48 rfl (by omega) (by omega) (fun h47 => ?_) (fun h47 => ?_)
                              · skip
                                refine j_iload hx 0 dX12_waits_57 rfl ?_
                                have f48 := zf hS_s2 ha (k := 0) rfl
                                exact j_iret hx hq rfl (by decide) (by decide) dX12_waits_59 ⟨13, rfl, rfl, hS_s2, (zFr_t (zFr_u zFr_rf e_s1 ha (by decide)) hF_s2 (by decide)), ⟨(by omega), by omega⟩⟩
                              · skip
                                refine j_iinc hx 0 [(5, .int (zI 14)), (0, .ref a), (1, .int (zI x1)), (2, .int (zI x2)), (3, .int (zI x3)), (4, .int (zI x4))] dX12_waits_51 rfl (by omega) (by decide) rfl ?_
                                refine j_goto hx 22 dX12_waits_54 rfl ?_
                                refine j_iload hx 0 dX12_waits_22 rfl ?_
                                refine j_bipush hx dX12_waits_24 rfl ?_
                                refine j_icmp_ge hx 57 dX12_waits_26 rfl ⟨by decide, by decide⟩ ⟨by decide, by decide⟩ (fun h49 => absurd h49 (by omega)) (fun h49 => ?_)
                                refine j_iload hx 0 dX12_waits_29 rfl ?_
                                refine j_iload_n hx 2 dX12_waits_31 rfl ?_
                                refine j_imul hx (r := 14 * x1) dX12_waits_32 rfl ?_
                                refine j_iload_n hx 4 dX12_waits_33 rfl ?_
                                refine j_imul hx (r := 14 * (x1 * x3)) dX12_waits_34 (by rw [Int.mul_assoc]) ?_
                                refine j_bipush hx dX12_waits_35 rfl ?_
                                refine j_iload_n hx 2 dX12_waits_37 rfl ?_
                                refine j_iload_n hx 4 dX12_waits_38 rfl ?_
                                refine j_imul hx (r := (x1 * x3)) dX12_waits_39 rfl ?_
                                refine j_iload_n hx 3 dX12_waits_40 rfl ?_
                                refine j_iload_n hx 2 dX12_waits_41 rfl ?_
                                refine j_isub hx (r := x2 - x1) dX12_waits_42 rfl ?_
                                refine j_iload hx 5 dX12_waits_43 rfl ?_
                                refine j_imul hx (r := ((x2 - x1) * x4)) dX12_waits_45 rfl ?_
                                refine j_isub hx (r := (x1 * x3) - ((x2 - x1) * x4)) dX12_waits_46 (by omega) ?_
                                refine j_imul hx (r := 16 * (x1 * x3) - 16 * ((x2 - x1) * x4)) dX12_waits_47 (by omega) ?_
                                refine j_icmp_ge hx 57 dX12_waits_48 rfl (by omega) (by omega) (fun h50 => ?_) (fun h50 => ?_)
                                · skip
                                  refine j_iload hx 0 dX12_waits_57 rfl ?_
                                  have f51 := zf hS_s2 ha (k := 0) rfl
                                  exact j_iret hx hq rfl (by decide) (by decide) dX12_waits_59 ⟨14, rfl, rfl, hS_s2, (zFr_t (zFr_u zFr_rf e_s1 ha (by decide)) hF_s2 (by decide)), ⟨(by omega), by omega⟩⟩
                                · skip
                                  refine j_iinc hx 0 [(5, .int (zI 15)), (0, .ref a), (1, .int (zI x1)), (2, .int (zI x2)), (3, .int (zI x3)), (4, .int (zI x4))] dX12_waits_51 rfl (by omega) (by decide) rfl ?_
                                  refine j_goto hx 22 dX12_waits_54 rfl ?_
                                  refine j_iload hx 0 dX12_waits_22 rfl ?_
                                  refine j_bipush hx dX12_waits_24 rfl ?_
                                  refine j_icmp_ge hx 57 dX12_waits_26 rfl ⟨by decide, by decide⟩ ⟨by decide, by decide⟩ (fun h52 => absurd h52 (by omega)) (fun h52 => ?_)
                                  refine j_iload hx 0 dX12_waits_29 rfl ?_
                                  refine j_iload_n hx 2 dX12_waits_31 rfl ?_
                                  refine j_imul hx (r := 15 * x1) dX12_waits_32 rfl ?_
                                  refine j_iload_n hx 4 dX12_waits_33 rfl ?_
                                  refine j_imul hx (r := 15 * (x1 * x3)) dX12_waits_34 (by rw [Int.mul_assoc]) ?_
                                  refine j_bipush hx dX12_waits_35 rfl ?_
                                  refine j_iload_n hx 2 dX12_waits_37 rfl ?_
                                  refine j_iload_n hx 4 dX12_waits_38 rfl ?_
                                  refine j_imul hx (r := (x1 * x3)) dX12_waits_39 rfl ?_
                                  refine j_iload_n hx 3 dX12_waits_40 rfl ?_
                                  refine j_iload_n hx 2 dX12_waits_41 rfl ?_
                                  refine j_isub hx (r := x2 - x1) dX12_waits_42 rfl ?_
                                  refine j_iload hx 5 dX12_waits_43 rfl ?_
                                  refine j_imul hx (r := ((x2 - x1) * x4)) dX12_waits_45 rfl ?_
                                  refine j_isub hx (r := (x1 * x3) - ((x2 - x1) * x4)) dX12_waits_46 (by omega) ?_
                                  refine j_imul hx (r := 16 * (x1 * x3) - 16 * ((x2 - x1) * x4)) dX12_waits_47 (by omega) ?_
                                  refine j_icmp_ge hx 57 dX12_waits_48 rfl (by omega) (by omega) (fun h53 => ?_) (fun h53 => ?_)
                                  · skip
                                    refine j_iload hx 0 dX12_waits_57 rfl ?_
                                    have f54 := zf hS_s2 ha (k := 0) rfl
                                    exact j_iret hx hq rfl (by decide) (by decide) dX12_waits_59 ⟨15, rfl, rfl, hS_s2, (zFr_t (zFr_u zFr_rf e_s1 ha (by decide)) hF_s2 (by decide)), ⟨(by omega), by omega⟩⟩
                                  · skip
                                    refine j_iinc hx 0 [(5, .int (zI 16)), (0, .ref a), (1, .int (zI x1)), (2, .int (zI x2)), (3, .int (zI x3)), (4, .int (zI x4))] dX12_waits_51 rfl (by omega) (by decide) rfl ?_
                                    refine j_goto hx 22 dX12_waits_54 rfl ?_
                                    refine j_iload hx 0 dX12_waits_22 rfl ?_
                                    refine j_bipush hx dX12_waits_24 rfl ?_
                                    refine j_icmp_ge hx 57 dX12_waits_26 rfl ⟨by decide, by decide⟩ ⟨by decide, by decide⟩ (fun h55 => absurd h55 (by omega)) (fun h55 => ?_)
                                    refine j_iload hx 0 dX12_waits_29 rfl ?_
                                    refine j_iload_n hx 2 dX12_waits_31 rfl ?_
                                    refine j_imul hx (r := 16 * x1) dX12_waits_32 rfl ?_
                                    refine j_iload_n hx 4 dX12_waits_33 rfl ?_
                                    refine j_imul hx (r := 16 * (x1 * x3)) dX12_waits_34 (by rw [Int.mul_assoc]) ?_
                                    refine j_bipush hx dX12_waits_35 rfl ?_
                                    refine j_iload_n hx 2 dX12_waits_37 rfl ?_
                                    refine j_iload_n hx 4 dX12_waits_38 rfl ?_
                                    refine j_imul hx (r := (x1 * x3)) dX12_waits_39 rfl ?_
                                    refine j_iload_n hx 3 dX12_waits_40 rfl ?_
                                    refine j_iload_n hx 2 dX12_waits_41 rfl ?_
                                    refine j_isub hx (r := x2 - x1) dX12_waits_42 rfl ?_
                                    refine j_iload hx 5 dX12_waits_43 rfl ?_
                                    refine j_imul hx (r := ((x2 - x1) * x4)) dX12_waits_45 rfl ?_
                                    refine j_isub hx (r := (x1 * x3) - ((x2 - x1) * x4)) dX12_waits_46 (by omega) ?_
                                    refine j_imul hx (r := 16 * (x1 * x3) - 16 * ((x2 - x1) * x4)) dX12_waits_47 (by omega) ?_
                                    refine j_icmp_ge hx 57 dX12_waits_48 rfl (by omega) (by omega) (fun h56 => ?_) (fun h56 => ?_)
                                    · skip
                                      refine j_iload hx 0 dX12_waits_57 rfl ?_
                                      have f57 := zf hS_s2 ha (k := 0) rfl
                                      exact j_iret hx hq rfl (by decide) (by decide) dX12_waits_59 ⟨16, rfl, rfl, hS_s2, (zFr_t (zFr_u zFr_rf e_s1 ha (by decide)) hF_s2 (by decide)), ⟨(by omega), by omega⟩⟩
                                    · skip
                                      refine j_iinc hx 0 [(5, .int (zI 17)), (0, .ref a), (1, .int (zI x1)), (2, .int (zI x2)), (3, .int (zI x3)), (4, .int (zI x4))] dX12_waits_51 rfl (by omega) (by decide) rfl ?_
                                      refine j_goto hx 22 dX12_waits_54 rfl ?_
                                      refine j_iload hx 0 dX12_waits_22 rfl ?_
                                      refine j_bipush hx dX12_waits_24 rfl ?_
                                      refine j_icmp_ge hx 57 dX12_waits_26 rfl ⟨by decide, by decide⟩ ⟨by decide, by decide⟩ (fun h58 => ?_) (fun h58 => absurd h58 (by omega))
                                      refine j_iload hx 0 dX12_waits_57 rfl ?_
                                      have f59 := zf hS_s2 ha (k := 0) rfl
                                      exact j_iret hx hq rfl (by decide) (by decide) dX12_waits_59 ⟨17, rfl, rfl, hS_s2, (zFr_t (zFr_u zFr_rf e_s1 ha (by decide)) hF_s2 (by decide)), ⟨(by omega), by omega⟩⟩
  · skip
    refine j_iconst hx dX12_waits_17 ?_
    have f60 := zf hS_s2 ha (k := 0) rfl
    exact j_iret hx hq rfl (by decide) (by decide) dX12_waits_18 ⟨0, rfl, rfl, hS_s2, (zFr_t (zFr_u zFr_rf e_s1 ha (by decide)) hF_s2 (by decide)), ⟨(by omega), by omega⟩⟩

set_option maxHeartbeats 4000000 in
set_option maxRecDepth 20000 in
theorem c_X12_ahead {E : zE} {l : Launch} (hst : l.stackTraces = false) (a : Nat) (x1 : Int) (x2 : Int) (x3 : Int) (x4 : Int) : Con E l yX12_ahead cX12_ahead 5 (some .int) { frames := 2, cells := 0, slots := 0, locals := 47 } (fun G s vs => vs = [.ref a, .int (zI x1), .int (zI x2), .int (zI x3), .int (zI x4)] ∧ zGK G ∧ zSK G s ∧ (gT G a = 13) ∧ ((-2147483648) ≤ x1 ∧ x1 ≤ 2147483647) ∧ ((-2147483648) ≤ x2 ∧ x2 ≤ 2147483647) ∧ ((-2147483648) ≤ x3 ∧ x3 ≤ 2147483647) ∧ ((-2147483648) ≤ x4 ∧ x4 ≤ 2147483647) ∧ (zS0m G s)) (fun G s _ => pI (fun r G2 s2 => G2 = G ∧ zSK G s2 ∧ zFr [13, 71] G s s2 ∧ ((-9801) ≤ r ∧ r ≤ 9801) ∧ (((1 ≤ x2 ∧ x2 ≤ 99 ∧ 0 ≤ x1 ∧ x1 ≤ x2 ∧ 0 ≤ x3 ∧ x3 ≤ 99 ∧ 0 ≤ x4 ∧ x4 ≤ 99) → s2 a 0 = 0 ∧ (r = x1 * x3 - (x2 - x1) * x4)) ∧ (¬ (1 ≤ x2 ∧ x2 ≤ 99 ∧ 0 ≤ x1 ∧ x1 ≤ x2 ∧ 0 ≤ x3 ∧ x3 ≤ 99 ∧ 0 ≤ x4 ∧ x4 ≤ 99) → s2 a 0 = 1)))) := by
  refine Con.mk hst (by decide) (fun G s vs h => by rw [h.1]; exact Nat.le_of_ble_eq_true rfl) ?_
  rintro X G s0 vs ⟨rfl, hG, hS0, ha, hx1, hx2, hx3, hx4, hF0⟩ rfl hx hq
  show JJ X E 5 G s0 0 0 [(0, .ref a), (1, .int (zI x1)), (2, .int (zI x2)), (3, .int (zI x3)), (4, .int (zI x4))] 0 []
  refine j_aload_n hx 0 dX12_ahead_0 rfl ?_
  refine j_iconst hx dX12_ahead_1 ?_
  refine p13_0 hx hG ha kf_RX12_3 dX12_ahead_2 ?_
  obtain ⟨s1, e_s1⟩ : ∃ z, z = zU s0 a 0 0 := ⟨_, rfl⟩
  rw [← e_s1]
  have hS_s1 : zSK G s1 := by rw [e_s1]; exact zSK_F hS0 ha rfl rfl rfl (by omega)
  refine j_aload_n hx 0 dX12_ahead_5 rfl ?_
  refine j_iload_n hx 1 dX12_ahead_6 rfl ?_
  refine j_iload_n hx 2 dX12_ahead_7 rfl ?_
  refine j_iload_n hx 3 dX12_ahead_8 rfl ?_
  refine j_iload hx 4 dX12_ahead_9 rfl ?_
  have g1 : s1 a 0 = 0 := (by rw [e_s1, zU_eq])
  refine j_callV hx hG (c_X12_isWorth hst a x1 x2 x3 x4) lk_RX12_465 ha (by decide) rfl rfl rfl rfl [.int (zI x1), .int (zI x2), .int (zI x3), .int (zI x4)] ⟨rfl, hG, hS_s1, ha, (by omega), (by omega), (by omega), (by omega), (((by rw [e_s1, zU_eq]) : s1 a 0 = 0).trans (by omega))⟩ rfl rfl ⟨by decide, by decide⟩ ⟨by decide, by decide⟩ (k2 := 0) (n2 := 0) rfl rfl (Nat.le_of_ble_eq_true rfl) dX12_ahead_11 (kIM (fun v2 s2 hS_s2 hF_s2 q3 => ?_))
  refine j_if_ne hx 19 dX12_ahead_14 rfl (by omega) (fun h4 => ?_) (fun h4 => ?_)
  · skip
    refine j_iload_n hx 1 dX12_ahead_19 rfl ?_
    refine j_iload_n hx 3 dX12_ahead_20 rfl ?_
    refine j_imul hx (r := (x1 * x3)) dX12_ahead_21 rfl ?_
    have f5 : 0 ≤ (x1 * x3) ∧ (x1 * x3) ≤ 99 * 99 := zmulnn (by omega) (by omega)
    refine j_iload_n hx 2 dX12_ahead_22 rfl ?_
    refine j_iload_n hx 1 dX12_ahead_23 rfl ?_
    refine j_isub hx (r := x2 - x1) dX12_ahead_24 rfl ?_
    refine j_iload hx 4 dX12_ahead_25 rfl ?_
    refine j_imul hx (r := ((x2 - x1) * x4)) dX12_ahead_27 rfl ?_
    have f6 : 0 ≤ ((x2 - x1) * x4) ∧ ((x2 - x1) * x4) ≤ 99 * 99 := zmulnn (by omega) (by omega)
    refine j_isub hx (r := (x1 * x3) - ((x2 - x1) * x4)) dX12_ahead_28 (by omega) ?_
    have f7 := zf hS_s2 ha (k := 0) rfl
    exact j_iret hx hq rfl (by decide) (by decide) dX12_ahead_29 ⟨(x1 * x3) - ((x2 - x1) * x4), rfl, rfl, hS_s2, (zFr_t (zFr_u zFr_rf e_s1 ha (by decide)) hF_s2 (by decide)), ⟨(by omega), by omega⟩⟩
  · skip
    refine j_iconst hx dX12_ahead_17 ?_
    have f8 := zf hS_s2 ha (k := 0) rfl
    exact j_iret hx hq rfl (by decide) (by decide) dX12_ahead_18 ⟨0, rfl, rfl, hS_s2, (zFr_t (zFr_u zFr_rf e_s1 ha (by decide)) hF_s2 (by decide)), ⟨(by omega), by omega⟩⟩

set_option maxHeartbeats 4000000 in
set_option maxRecDepth 20000 in
theorem c_X12_gets {E : zE} {l : Launch} (hst : l.stackTraces = false) (a : Nat) (x1 : Int) (x2 : Int) (x3 : Int) : Con E l yX12_gets cX12_gets 6 (some .int) { frames := 0, cells := 0, slots := 0, locals := 0 } (fun G s vs => vs = [.ref a, .int (zI x1), .int (zI x2), .int (zI x3)] ∧ zGK G ∧ zSK G s ∧ (gT G a = 13) ∧ (0 ≤ x1 ∧ x1 ≤ 0) ∧ (0 ≤ x2 ∧ x2 ≤ 0) ∧ (0 ≤ x3 ∧ x3 ≤ 99)) (fun G s _ => pI (fun r G2 s2 => G2 = G ∧ s2 = s ∧ (0 ≤ r ∧ r ≤ 0))) := by
  refine Con.mk hst (by decide) (fun G s vs h => by rw [h.1]; exact Nat.le_of_ble_eq_true rfl) ?_
  rintro X G s0 vs ⟨rfl, hG, hS0, ha, hx1, hx2, hx3⟩ rfl hx hq
  show JJ X E 6 G s0 0 0 [(0, .ref a), (1, .int (zI x1)), (2, .int (zI x2)), (3, .int (zI x3))] 0 []
  refine j_iconst hx dX12_gets_0 ?_
  refine j_istore hx [(4, .int (zI 0)), (0, .ref a), (1, .int (zI x1)), (2, .int (zI x2)), (3, .int (zI x3))] dX12_gets_1 (by decide) rfl ?_
  refine j_iconst hx dX12_gets_3 ?_
  refine j_istore hx [(5, .int (zI 0)), (4, .int (zI 0)), (0, .ref a), (1, .int (zI x1)), (2, .int (zI x2)), (3, .int (zI x3))] dX12_gets_4 (by decide) rfl ?_
  refine j_iload hx 0 dX12_gets_6 rfl ?_
  refine j_aload_n hx 2 dX12_gets_8 rfl ?_
  have f1 := zf hS0 ha (k := 26) rfl
  refine g13_26 hx hG ha kf_RX12_195 rfl dX12_gets_9 ?_
  refine j_icmp_ge hx 95 dX12_gets_12 rfl ⟨by decide, by decide⟩ (by omega) (fun h2 => ?_) (fun h2 => absurd h2 (by omega))
  refine j_iload hx 1 dX12_gets_95 rfl ?_
  exact j_iret hx hq rfl (by decide) (by decide) dX12_gets_97 ⟨0, rfl, rfl, rfl, (by omega)⟩

theorem lk_RX12_469 : LkV RX12 469 RX12 yX12_gets cX12_gets 6 (some .int) 3 := ⟨km_RX12_469, ki_yX12_gets, ks_RX12_yX12_gets, kn_RX12, kc_yX12_gets, rfl, by decide +kernel, by decide +kernel, by decide +kernel⟩
set_option maxHeartbeats 4000000 in
set_option maxRecDepth 20000 in
theorem c_X12_moments {E : zE} {l : Launch} (hst : l.stackTraces = false) (a : Nat) (x1 : Int) (x2 : Int) (x3 : Int) : Con E l yX12_moments cX12_moments 4 (some .int) { frames := 1, cells := 0, slots := 0, locals := 25 } (fun G s vs => vs = [.ref a, .int (zI x1), .int (zI x2), .int (zI x3)] ∧ zGK G ∧ zSK G s ∧ (gT G a = 13) ∧ ((-2147483648) ≤ x1 ∧ x1 ≤ 2147483647) ∧ ((-2147483648) ≤ x2 ∧ x2 ≤ 2147483647) ∧ ((-2147483648) ≤ x3 ∧ x3 ≤ 2147483647) ∧ (zS0m G s)) (fun G s _ => pI (fun r G2 s2 => G2 = G ∧ zSK G s2 ∧ zFr [13, 71] G s s2 ∧ (0 ≤ r ∧ r ≤ 0) ∧ (((x1 = 0 ∧ x2 = 0 ∧ 0 ≤ x3 ∧ x3 ≤ 99) → s2 a 0 = 0) ∧ (¬ (x1 = 0 ∧ x2 = 0 ∧ 0 ≤ x3 ∧ x3 ≤ 99) → s2 a 0 = 1)))) := by
  refine Con.mk hst (by decide) (fun G s vs h => by rw [h.1]; exact Nat.le_of_ble_eq_true rfl) ?_
  rintro X G s0 vs ⟨rfl, hG, hS0, ha, hx1, hx2, hx3, hF0⟩ rfl hx hq
  show JJ X E 4 G s0 0 0 [(0, .ref a), (1, .int (zI x1)), (2, .int (zI x2)), (3, .int (zI x3))] 0 []
  refine j_aload_n hx 0 dX12_moments_0 rfl ?_
  refine j_iconst hx dX12_moments_1 ?_
  refine p13_0 hx hG ha kf_RX12_3 dX12_moments_2 ?_
  obtain ⟨s1, e_s1⟩ : ∃ z, z = zU s0 a 0 0 := ⟨_, rfl⟩
  rw [← e_s1]
  have hS_s1 : zSK G s1 := by rw [e_s1]; exact zSK_F hS0 ha rfl rfl rfl (by omega)
  refine j_aload_n hx 0 dX12_moments_5 rfl ?_
  refine j_iload_n hx 1 dX12_moments_6 rfl ?_
  refine j_iconst hx dX12_moments_7 ?_
  refine j_aload_n hx 0 dX12_moments_8 rfl ?_
  have f1 := z0fm hF0 ha (by decide) (k := 26) rfl
  refine g13_26 hx hG ha kf_RX12_195 (v := (s0 a 26)) (by rw [e_s1, zU_at (Or.inr (by decide))]) dX12_moments_9 ?_
  refine j_callS hx (c_X12_within hst x1 0 ((s0 a 26))) lk_RX12_314 [.int (zI x1), .int (zI 0), .int (zI ((s0 a 26)))] ⟨rfl, hG, hS_s1, (by omega), (by omega), (by omega)⟩ rfl rfl ⟨by decide, by decide⟩ ⟨by decide, by decide⟩ (k2 := 0) (n2 := 0) rfl rfl (Nat.le_of_ble_eq_true rfl) dX12_moments_12 (kIP (fun v2 q3 => ?_))
  refine j_if_eq hx 44 dX12_moments_15 rfl (by omega) (fun h4 => ?_) (fun h4 => ?_)
  · skip
    refine j_iconst hx dX12_moments_44 ?_
    refine j_iconst hx dX12_moments_45 ?_
    refine j_iconst hx dX12_moments_46 ?_
    have g5 : s1 a 0 = 0 := (by rw [e_s1, zU_eq])
    refine j_callV hx hG (c_X12_may_f hst a 0 1 1) lk_RX12_240 ha (by decide) rfl rfl rfl rfl [.int (zI 0), .int (zI 1), .int (zI 1)] ⟨rfl, hG, hS_s1, ha, (by omega), (by omega), (by omega), (((by rw [e_s1, zU_eq]) : s1 a 0 = 0).trans (by omega))⟩ rfl rfl ⟨by decide, by decide⟩ ⟨by decide, by decide⟩ (k2 := 0) (n2 := 0) rfl rfl (Nat.le_of_ble_eq_true rfl) dX12_moments_47 (kIM (fun v6 s2 hS_s2 hF_s2 q7 => ?_))
    refine j_if_ne hx 55 dX12_moments_50 rfl (by omega) (fun h8 => absurd h8 (by omega)) (fun h8 => ?_)
    refine j_iconst hx dX12_moments_53 ?_
    exact j_iret hx hq rfl (by decide) (by decide) dX12_moments_54 ⟨0, rfl, rfl, hS_s2, (zFr_t (zFr_u zFr_rf e_s1 ha (by decide)) hF_s2 (by decide)), ⟨(by omega), by omega⟩⟩
  · skip
    refine j_iload_n hx 2 dX12_moments_18 rfl ?_
    refine j_iconst hx dX12_moments_19 ?_
    refine j_aload_n hx 0 dX12_moments_20 rfl ?_
    refine g13_26 hx hG ha kf_RX12_195 (v := (s0 a 26)) (by rw [e_s1, zU_at (Or.inr (by decide))]) dX12_moments_21 ?_
    refine j_callS hx (c_X12_within hst x2 0 ((s0 a 26))) lk_RX12_314 [.int (zI x2), .int (zI 0), .int (zI ((s0 a 26)))] ⟨rfl, hG, hS_s1, (by omega), (by omega), (by omega)⟩ rfl rfl ⟨by decide, by decide⟩ ⟨by decide, by decide⟩ (k2 := 0) (n2 := 0) rfl rfl (Nat.le_of_ble_eq_true rfl) dX12_moments_24 (kIP (fun v9 q10 => ?_))
    refine j_if_eq hx 44 dX12_moments_27 rfl (by omega) (fun h11 => ?_) (fun h11 => ?_)
    · skip
      refine j_iconst hx dX12_moments_44 ?_
      refine j_iconst hx dX12_moments_45 ?_
      refine j_iconst hx dX12_moments_46 ?_
      have g12 : s1 a 0 = 0 := (by rw [e_s1, zU_eq])
      refine j_callV hx hG (c_X12_may_f hst a 0 1 1) lk_RX12_240 ha (by decide) rfl rfl rfl rfl [.int (zI 0), .int (zI 1), .int (zI 1)] ⟨rfl, hG, hS_s1, ha, (by omega), (by omega), (by omega), (((by rw [e_s1, zU_eq]) : s1 a 0 = 0).trans (by omega))⟩ rfl rfl ⟨by decide, by decide⟩ ⟨by decide, by decide⟩ (k2 := 0) (n2 := 0) rfl rfl (Nat.le_of_ble_eq_true rfl) dX12_moments_47 (kIM (fun v13 s3 hS_s3 hF_s3 q14 => ?_))
      refine j_if_ne hx 55 dX12_moments_50 rfl (by omega) (fun h15 => absurd h15 (by omega)) (fun h15 => ?_)
      refine j_iconst hx dX12_moments_53 ?_
      exact j_iret hx hq rfl (by decide) (by decide) dX12_moments_54 ⟨0, rfl, rfl, hS_s3, (zFr_t (zFr_u zFr_rf e_s1 ha (by decide)) hF_s3 (by decide)), ⟨(by omega), by omega⟩⟩
    · skip
      refine j_iload_n hx 3 dX12_moments_30 rfl ?_
      refine j_iconst hx dX12_moments_31 ?_
      refine j_bipush hx dX12_moments_32 rfl ?_
      refine j_callS hx (c_X12_within hst x3 0 99) lk_RX12_314 [.int (zI x3), .int (zI 0), .int (zI 99)] ⟨rfl, hG, hS_s1, (by omega), (by omega), (by omega)⟩ rfl rfl ⟨by decide, by decide⟩ ⟨by decide, by decide⟩ (k2 := 0) (n2 := 0) rfl rfl (Nat.le_of_ble_eq_true rfl) dX12_moments_34 (kIP (fun v16 q17 => ?_))
      refine j_if_eq hx 44 dX12_moments_37 rfl (by omega) (fun h18 => ?_) (fun h18 => ?_)
      · skip
        refine j_iconst hx dX12_moments_44 ?_
        refine j_iconst hx dX12_moments_45 ?_
        refine j_iconst hx dX12_moments_46 ?_
        have g19 : s1 a 0 = 0 := (by rw [e_s1, zU_eq])
        refine j_callV hx hG (c_X12_may_f hst a 0 1 1) lk_RX12_240 ha (by decide) rfl rfl rfl rfl [.int (zI 0), .int (zI 1), .int (zI 1)] ⟨rfl, hG, hS_s1, ha, (by omega), (by omega), (by omega), (((by rw [e_s1, zU_eq]) : s1 a 0 = 0).trans (by omega))⟩ rfl rfl ⟨by decide, by decide⟩ ⟨by decide, by decide⟩ (k2 := 0) (n2 := 0) rfl rfl (Nat.le_of_ble_eq_true rfl) dX12_moments_47 (kIM (fun v20 s4 hS_s4 hF_s4 q21 => ?_))
        refine j_if_ne hx 55 dX12_moments_50 rfl (by omega) (fun h22 => absurd h22 (by omega)) (fun h22 => ?_)
        refine j_iconst hx dX12_moments_53 ?_
        exact j_iret hx hq rfl (by decide) (by decide) dX12_moments_54 ⟨0, rfl, rfl, hS_s4, (zFr_t (zFr_u zFr_rf e_s1 ha (by decide)) hF_s4 (by decide)), ⟨(by omega), by omega⟩⟩
      · skip
        refine j_iconst hx dX12_moments_40 ?_
        refine j_goto hx 45 dX12_moments_41 rfl ?_
        refine j_iconst hx dX12_moments_45 ?_
        refine j_iconst hx dX12_moments_46 ?_
        have g23 : s1 a 0 = 0 := (by rw [e_s1, zU_eq])
        refine j_callV hx hG (c_X12_may_t hst a 1 1 1) lk_RX12_240 ha (by decide) rfl rfl rfl rfl [.int (zI 1), .int (zI 1), .int (zI 1)] ⟨rfl, hG, hS_s1, ha, (by omega), (by omega), (by omega), (((by rw [e_s1, zU_eq]) : s1 a 0 = 0).trans (by omega))⟩ rfl rfl ⟨by decide, by decide⟩ ⟨by decide, by decide⟩ (k2 := 0) (n2 := 0) rfl rfl (Nat.le_of_ble_eq_true rfl) dX12_moments_47 (kIP (fun v24 q25 => ?_))
        refine j_if_ne hx 55 dX12_moments_50 rfl (by omega) (fun h26 => ?_) (fun h26 => absurd h26 (by omega))
        refine j_aload_n hx 0 dX12_moments_55 rfl ?_
        refine j_iload_n hx 1 dX12_moments_56 rfl ?_
        refine j_iload_n hx 2 dX12_moments_57 rfl ?_
        refine j_iload_n hx 3 dX12_moments_58 rfl ?_
        refine j_callV hx hG (c_X12_gets hst a x1 x2 x3) lk_RX12_469 ha (by decide) rfl rfl rfl rfl [.int (zI x1), .int (zI x2), .int (zI x3)] ⟨rfl, hG, hS_s1, ha, (by omega), (by omega), (by omega)⟩ rfl rfl ⟨by decide, by decide⟩ ⟨by decide, by decide⟩ (k2 := 0) (n2 := 0) rfl rfl (Nat.le_of_ble_eq_true rfl) dX12_moments_59 (kIP (fun v27 q28 => ?_))
        exact j_iret hx hq rfl (by decide) (by decide) dX12_moments_62 ⟨v27, rfl, rfl, hS_s1, (zFr_u zFr_rf e_s1 ha (by decide)), ⟨(by omega), by omega⟩⟩

set_option maxHeartbeats 4000000 in
set_option maxRecDepth 20000 in
theorem c_X12_isBest {E : zE} {l : Launch} (hst : l.stackTraces = false) (a : Nat) (x1 : Int) (x2 : Int) (x3 : Int) : Con E l yX12_isBest cX12_isBest 5 (some .boolean) { frames := 1, cells := 0, slots := 0, locals := 25 } (fun G s vs => vs = [.ref a, .int (zI x1), .int (zI x2), .int (zI x3)] ∧ zGK G ∧ zSK G s ∧ (gT G a = 13) ∧ (0 ≤ x1 ∧ x1 ≤ 0) ∧ (0 ≤ x2 ∧ x2 ≤ 0) ∧ (0 ≤ x3 ∧ x3 ≤ 99)) (fun G s _ => pI (fun r G2 s2 => G2 = G ∧ s2 = s ∧ (1 ≤ r ∧ r ≤ 1))) := by
  refine Con.mk hst (by decide) (fun G s vs h => by rw [h.1]; exact Nat.le_of_ble_eq_true rfl) ?_
  rintro X G s0 vs ⟨rfl, hG, hS0, ha, hx1, hx2, hx3⟩ rfl hx hq
  show JJ X E 5 G s0 0 0 [(0, .ref a), (1, .int (zI x1)), (2, .int (zI x2)), (3, .int (zI x3))] 0 []
  refine j_iconst hx dX12_isBest_0 ?_
  refine j_istore hx [(4, .int (zI 0)), (0, .ref a), (1, .int (zI x1)), (2, .int (zI x2)), (3, .int (zI x3))] dX12_isBest_1 (by decide) rfl ?_
  have c3_1 : ∀ (m_c3_1 : Nat) (v1 : Int), 2147483648 - v1 < m_c3_1 → (0 ≤ v1 ∧ v1 ≤ 1) → JJ X E 5 G s0 0 0 [(0, .ref a), (1, .int (zI x1)), (2, .int (zI x2)), (3, .int (zI x3)), (4, .int (zI v1))] 3 [] := by
    intro m_c3_1
    induction m_c3_1 with
    | zero => intro v1 hm_c3_1 fA2; exfalso; omega
    | succ m_c3_1 ih_c3_1 => 
      intro v1 hm_c3_1 fA2
      refine j_iload hx 4 dX12_isBest_3 rfl ?_
      refine j_aload_n hx 0 dX12_isBest_5 rfl ?_
      have f2 := zf hS0 ha (k := 26) rfl
      refine g13_26 hx hG ha kf_RX12_195 rfl dX12_isBest_6 ?_
      refine j_icmp_gt hx 38 dX12_isBest_9 rfl (by omega) (by omega) (fun h3 => ?_) (fun h3 => ?_)
      · skip
        refine j_iconst hx dX12_isBest_38 ?_
        exact j_zret hx hq rfl (by decide) (by decide) dX12_isBest_39 (by omega) ⟨1, rfl, rfl, rfl, (by omega)⟩
      · skip
        refine j_aload_n hx 0 dX12_isBest_12 rfl ?_
        refine j_iload hx 4 dX12_isBest_13 rfl ?_
        refine j_iload_n hx 2 dX12_isBest_15 rfl ?_
        refine j_iload_n hx 3 dX12_isBest_16 rfl ?_
        refine j_callV hx hG (c_X12_gets hst a v1 x2 x3) lk_RX12_469 ha (by decide) rfl rfl rfl rfl [.int (zI v1), .int (zI x2), .int (zI x3)] ⟨rfl, hG, hS0, ha, (by omega), (by omega), (by omega)⟩ rfl rfl ⟨by decide, by decide⟩ ⟨by decide, by decide⟩ (k2 := 0) (n2 := 0) rfl rfl (Nat.le_of_ble_eq_true rfl) dX12_isBest_17 (kIP (fun v4 q5 => ?_))
        refine j_aload_n hx 0 dX12_isBest_20 rfl ?_
        refine j_iload_n hx 1 dX12_isBest_21 rfl ?_
        refine j_iload_n hx 2 dX12_isBest_22 rfl ?_
        refine j_iload_n hx 3 dX12_isBest_23 rfl ?_
        refine j_callV hx hG (c_X12_gets hst a x1 x2 x3) lk_RX12_469 ha (by decide) rfl rfl rfl rfl [.int (zI x1), .int (zI x2), .int (zI x3)] ⟨rfl, hG, hS0, ha, (by omega), (by omega), (by omega)⟩ rfl rfl ⟨by decide, by decide⟩ ⟨by decide, by decide⟩ (k2 := 0) (n2 := 0) rfl rfl (Nat.le_of_ble_eq_true rfl) dX12_isBest_24 (kIP (fun v6 q7 => ?_))
        refine j_icmp_le hx 32 dX12_isBest_27 rfl (by omega) (by omega) (fun h8 => ?_) (fun h8 => absurd h8 (by omega))
        refine j_iinc hx 4 [(4, .int (zI (v1 + 1))), (0, .ref a), (1, .int (zI x1)), (2, .int (zI x2)), (3, .int (zI x3))] dX12_isBest_32 rfl (by omega) (by decide) rfl ?_
        refine j_goto hx 3 dX12_isBest_35 rfl ?_
        exact j_sub [1, 2, 3, 4, 0] [(0, .ref a), (1, .int (zI x1)), (2, .int (zI x2)), (3, .int (zI x3)), (4, .int (zI (v1 + 1)))] rfl (ih_c3_1 (v1 + 1) (by omega) (by omega))
  exact j_sub [1, 2, 3, 4, 0] [(0, .ref a), (1, .int (zI x1)), (2, .int (zI x2)), (3, .int (zI x3)), (4, .int (zI 0))] rfl (c3_1 (2147483648 * 4) 0 (by omega) (by omega))

theorem lk_RX12_472 : LkV RX12 472 RX12 yX12_isBest cX12_isBest 5 (some .boolean) 3 := ⟨km_RX12_472, ki_yX12_isBest, ks_RX12_yX12_isBest, kn_RX12, kc_yX12_isBest, rfl, by decide +kernel, by decide +kernel, by decide +kernel⟩
set_option maxHeartbeats 4000000 in
set_option maxRecDepth 20000 in
theorem c_X12_rests {E : zE} {l : Launch} (hst : l.stackTraces = false) (a : Nat) (x1 : Int) (x2 : Int) : Con E l yX12_rests cX12_rests 7 (some .int) { frames := 2, cells := 0, slots := 0, locals := 49 } (fun G s vs => vs = [.ref a, .int (zI x1), .int (zI x2)] ∧ zGK G ∧ zSK G s ∧ (gT G a = 13) ∧ ((-2147483648) ≤ x1 ∧ x1 ≤ 2147483647) ∧ ((-2147483648) ≤ x2 ∧ x2 ≤ 2147483647) ∧ (zS0m G s)) (fun G s _ => pI (fun r G2 s2 => G2 = G ∧ zSK G s2 ∧ zFr [13, 71] G s s2 ∧ (0 ≤ r ∧ r ≤ 1) ∧ (((0 ≤ x1 ∧ x1 ≤ 99 ∧ 0 ≤ x2 ∧ x2 ≤ 1) → s2 a 0 = 0 ∧ ((x2 = 0 → r = 1) ∧ (x2 ≠ 0 → r = 0))) ∧ (¬ (0 ≤ x1 ∧ x1 ≤ 99 ∧ 0 ≤ x2 ∧ x2 ≤ 1) → s2 a 0 = 1)))) := by
  refine Con.mk hst (by decide) (fun G s vs h => by rw [h.1]; exact Nat.le_of_ble_eq_true rfl) ?_
  rintro X G s0 vs ⟨rfl, hG, hS0, ha, hx1, hx2, hF0⟩ rfl hx hq
  show JJ X E 7 G s0 0 0 [(0, .ref a), (1, .int (zI x1)), (2, .int (zI x2))] 0 []
  refine j_aload_n hx 0 dX12_rests_0 rfl ?_
  refine j_iconst hx dX12_rests_1 ?_
  refine p13_0 hx hG ha kf_RX12_3 dX12_rests_2 ?_
  obtain ⟨s1, e_s1⟩ : ∃ z, z = zU s0 a 0 0 := ⟨_, rfl⟩
  rw [← e_s1]
  have hS_s1 : zSK G s1 := by rw [e_s1]; exact zSK_F hS0 ha rfl rfl rfl (by omega)
  refine j_aload_n hx 0 dX12_rests_5 rfl ?_
  refine j_iload_n hx 1 dX12_rests_6 rfl ?_
  refine j_iconst hx dX12_rests_7 ?_
  refine j_bipush hx dX12_rests_8 rfl ?_
  refine j_callS hx (c_X12_within hst x1 0 99) lk_RX12_314 [.int (zI x1), .int (zI 0), .int (zI 99)] ⟨rfl, hG, hS_s1, (by omega), (by omega), (by omega)⟩ rfl rfl ⟨by decide, by decide⟩ ⟨by decide, by decide⟩ (k2 := 0) (n2 := 0) rfl rfl (Nat.le_of_ble_eq_true rfl) dX12_rests_10 (kIP (fun v1 q2 => ?_))
  refine j_if_eq hx 29 dX12_rests_13 rfl (by omega) (fun h3 => ?_) (fun h3 => ?_)
  · skip
    refine j_iconst hx dX12_rests_29 ?_
    refine j_iconst hx dX12_rests_30 ?_
    refine j_iconst hx dX12_rests_31 ?_
    have g4 : s1 a 0 = 0 := (by rw [e_s1, zU_eq])
    refine j_callV hx hG (c_X12_may_f hst a 0 1 1) lk_RX12_240 ha (by decide) rfl rfl rfl rfl [.int (zI 0), .int (zI 1), .int (zI 1)] ⟨rfl, hG, hS_s1, ha, (by omega), (by omega), (by omega), (((by rw [e_s1, zU_eq]) : s1 a 0 = 0).trans (by omega))⟩ rfl rfl ⟨by decide, by decide⟩ ⟨by decide, by decide⟩ (k2 := 0) (n2 := 0) rfl rfl (Nat.le_of_ble_eq_true rfl) dX12_rests_32 (kIM (fun v5 s2 hS_s2 hF_s2 q6 => ?_))
    refine j_if_ne hx 40 dX12_rests_35 rfl (by omega) (fun h7 => absurd h7 (by omega)) (fun h7 => ?_)
    refine j_iconst hx dX12_rests_38 ?_
    exact j_iret hx hq rfl (by decide) (by decide) dX12_rests_39 ⟨0, rfl, rfl, hS_s2, (zFr_t (zFr_u zFr_rf e_s1 ha (by decide)) hF_s2 (by decide)), ⟨(by omega), by omega⟩⟩
  · skip
    refine j_iload_n hx 2 dX12_rests_16 rfl ?_
    refine j_iconst hx dX12_rests_17 ?_
    refine j_iconst hx dX12_rests_18 ?_
    refine j_callS hx (c_X12_within hst x2 0 1) lk_RX12_314 [.int (zI x2), .int (zI 0), .int (zI 1)] ⟨rfl, hG, hS_s1, (by omega), (by omega), (by omega)⟩ rfl rfl ⟨by decide, by decide⟩ ⟨by decide, by decide⟩ (k2 := 0) (n2 := 0) rfl rfl (Nat.le_of_ble_eq_true rfl) dX12_rests_19 (kIP (fun v8 q9 => ?_))
    refine j_if_eq hx 29 dX12_rests_22 rfl (by omega) (fun h10 => ?_) (fun h10 => ?_)
    · skip
      refine j_iconst hx dX12_rests_29 ?_
      refine j_iconst hx dX12_rests_30 ?_
      refine j_iconst hx dX12_rests_31 ?_
      have g11 : s1 a 0 = 0 := (by rw [e_s1, zU_eq])
      refine j_callV hx hG (c_X12_may_f hst a 0 1 1) lk_RX12_240 ha (by decide) rfl rfl rfl rfl [.int (zI 0), .int (zI 1), .int (zI 1)] ⟨rfl, hG, hS_s1, ha, (by omega), (by omega), (by omega), (((by rw [e_s1, zU_eq]) : s1 a 0 = 0).trans (by omega))⟩ rfl rfl ⟨by decide, by decide⟩ ⟨by decide, by decide⟩ (k2 := 0) (n2 := 0) rfl rfl (Nat.le_of_ble_eq_true rfl) dX12_rests_32 (kIM (fun v12 s3 hS_s3 hF_s3 q13 => ?_))
      refine j_if_ne hx 40 dX12_rests_35 rfl (by omega) (fun h14 => absurd h14 (by omega)) (fun h14 => ?_)
      refine j_iconst hx dX12_rests_38 ?_
      exact j_iret hx hq rfl (by decide) (by decide) dX12_rests_39 ⟨0, rfl, rfl, hS_s3, (zFr_t (zFr_u zFr_rf e_s1 ha (by decide)) hF_s3 (by decide)), ⟨(by omega), by omega⟩⟩
    · skip
      refine j_iconst hx dX12_rests_25 ?_
      refine j_goto hx 30 dX12_rests_26 rfl ?_
      refine j_iconst hx dX12_rests_30 ?_
      refine j_iconst hx dX12_rests_31 ?_
      have g15 : s1 a 0 = 0 := (by rw [e_s1, zU_eq])
      refine j_callV hx hG (c_X12_may_t hst a 1 1 1) lk_RX12_240 ha (by decide) rfl rfl rfl rfl [.int (zI 1), .int (zI 1), .int (zI 1)] ⟨rfl, hG, hS_s1, ha, (by omega), (by omega), (by omega), (((by rw [e_s1, zU_eq]) : s1 a 0 = 0).trans (by omega))⟩ rfl rfl ⟨by decide, by decide⟩ ⟨by decide, by decide⟩ (k2 := 0) (n2 := 0) rfl rfl (Nat.le_of_ble_eq_true rfl) dX12_rests_32 (kIP (fun v16 q17 => ?_))
      refine j_if_ne hx 40 dX12_rests_35 rfl (by omega) (fun h18 => ?_) (fun h18 => absurd h18 (by omega))
      refine j_iconst hx dX12_rests_40 ?_
      refine j_istore_n hx [(3, .int (zI 0)), (0, .ref a), (1, .int (zI x1)), (2, .int (zI x2))] dX12_rests_41 (by decide) rfl ?_
      refine j_iconst hx dX12_rests_42 ?_
      refine j_istore hx [(4, .int (zI (-1))), (3, .int (zI 0)), (0, .ref a), (1, .int (zI x1)), (2, .int (zI x2))] dX12_rests_43 (by decide) rfl ?_
      refine j_iconst hx dX12_rests_45 ?_
      refine j_istore hx [(5, .int (zI 0)), (4, .int (zI (-1))), (3, .int (zI 0)), (0, .ref a), (1, .int (zI x1)), (2, .int (zI x2))] dX12_rests_46 (by decide) rfl ?_
      refine j_iload hx 0 dX12_rests_48 rfl ?_
      refine j_aload_n hx 3 dX12_rests_50 rfl ?_
      have f19 := z0fm hF0 ha (by decide) (k := 26) rfl
      refine g13_26 hx hG ha kf_RX12_195 (v := (s0 a 26)) (by rw [e_s1, zU_at (Or.inr (by decide))]) dX12_rests_51 ?_
      refine j_icmp_gt hx 127 dX12_rests_54 rfl ⟨by decide, by decide⟩ (by omega) (fun h20 => absurd h20 (by omega)) (fun h20 => ?_)
      refine j_iconst hx dX12_rests_57 ?_
      refine j_istore hx [(6, .int (zI 0)), (5, .int (zI 0)), (4, .int (zI (-1))), (3, .int (zI 0)), (0, .ref a), (1, .int (zI x1)), (2, .int (zI x2))] dX12_rests_58 (by decide) rfl ?_
      refine j_iload hx 0 dX12_rests_60 rfl ?_
      refine j_aload_n hx 4 dX12_rests_62 rfl ?_
      refine g13_26 hx hG ha kf_RX12_195 (v := (s0 a 26)) (by rw [e_s1, zU_at (Or.inr (by decide))]) dX12_rests_63 ?_
      refine j_icmp_gt hx 121 dX12_rests_66 rfl ⟨by decide, by decide⟩ (by omega) (fun h21 => absurd h21 (by omega)) (fun h21 => ?_)
      refine j_aload_n hx 4 dX12_rests_69 rfl ?_
      refine j_iload hx 1 dX12_rests_70 rfl ?_
      refine j_iload hx 0 dX12_rests_72 rfl ?_
      refine j_iload_n hx 5 dX12_rests_74 rfl ?_
      refine j_callV hx hG (c_X12_isBest hst a 0 0 x1) lk_RX12_472 ha (by decide) rfl rfl rfl rfl [.int (zI 0), .int (zI 0), .int (zI x1)] ⟨rfl, hG, hS_s1, ha, (by omega), (by omega), (by omega)⟩ rfl rfl ⟨by decide, by decide⟩ ⟨by decide, by decide⟩ (k2 := 0) (n2 := 0) rfl rfl (Nat.le_of_ble_eq_true rfl) dX12_rests_75 (kIP (fun v22 q23 => ?_))
      refine j_if_eq hx 115 dX12_rests_78 rfl (by omega) (fun h24 => absurd h24 (by omega)) (fun h24 => ?_)
      refine j_aload_n hx 4 dX12_rests_81 rfl ?_
      refine j_iload hx 0 dX12_rests_82 rfl ?_
      refine j_iload hx 1 dX12_rests_84 rfl ?_
      refine j_iload_n hx 5 dX12_rests_86 rfl ?_
      refine j_callV hx hG (c_X12_isBest hst a 0 0 x1) lk_RX12_472 ha (by decide) rfl rfl rfl rfl [.int (zI 0), .int (zI 0), .int (zI x1)] ⟨rfl, hG, hS_s1, ha, (by omega), (by omega), (by omega)⟩ rfl rfl ⟨by decide, by decide⟩ ⟨by decide, by decide⟩ (k2 := 0) (n2 := 0) rfl rfl (Nat.le_of_ble_eq_true rfl) dX12_rests_87 (kIP (fun v25 q26 => ?_))
      refine j_if_ne hx 96 dX12_rests_90 rfl (by omega) (fun h27 => ?_) (fun h27 => absurd h27 (by omega))
      refine j_iinc hx 3 [(3, .int (zI 1)), (6, .int (zI 0)), (5, .int (zI 0)), (4, .int (zI (-1))), (0, .ref a), (1, .int (zI x1)), (2, .int (zI x2))] dX12_rests_96 rfl (by omega) (by decide) rfl ?_
      refine j_iload hx 3 dX12_rests_99 rfl ?_
      refine j_iconst hx dX12_rests_101 ?_
      refine j_icmp_ne hx 115 dX12_rests_102 rfl ⟨by decide, by decide⟩ ⟨by decide, by decide⟩ (fun h28 => absurd h28 (by omega)) (fun h28 => ?_)
      refine j_bipush hx dX12_rests_105 rfl ?_
      refine j_iload hx 2 dX12_rests_107 rfl ?_
      refine j_imul hx (r := 0) dX12_rests_109 (by omega) ?_
      refine j_iload hx 1 dX12_rests_110 rfl ?_
      refine j_iadd hx (r := 0) dX12_rests_112 (by omega) ?_
      refine j_istore hx [(4, .int (zI 0)), (3, .int (zI 1)), (6, .int (zI 0)), (5, .int (zI 0)), (0, .ref a), (1, .int (zI x1)), (2, .int (zI x2))] dX12_rests_113 (by decide) rfl ?_
      refine j_iinc hx 2 [(6, .int (zI 1)), (4, .int (zI 0)), (3, .int (zI 1)), (5, .int (zI 0)), (0, .ref a), (1, .int (zI x1)), (2, .int (zI x2))] dX12_rests_115 rfl (by omega) (by decide) rfl ?_
      refine j_goto hx 60 dX12_rests_118 rfl ?_
      refine j_iload hx 0 dX12_rests_60 rfl ?_
      refine j_aload_n hx 4 dX12_rests_62 rfl ?_
      refine g13_26 hx hG ha kf_RX12_195 (v := (s0 a 26)) (by rw [e_s1, zU_at (Or.inr (by decide))]) dX12_rests_63 ?_
      refine j_icmp_gt hx 121 dX12_rests_66 rfl ⟨by decide, by decide⟩ (by omega) (fun h29 => ?_) (fun h29 => absurd h29 (by omega))
      refine j_iinc hx 3 [(5, .int (zI 1)), (6, .int (zI 1)), (4, .int (zI 0)), (3, .int (zI 1)), (0, .ref a), (1, .int (zI x1)), (2, .int (zI x2))] dX12_rests_121 rfl (by omega) (by decide) rfl ?_
      refine j_goto hx 48 dX12_rests_124 rfl ?_
      refine j_iload hx 0 dX12_rests_48 rfl ?_
      refine j_aload_n hx 4 dX12_rests_50 rfl ?_
      refine g13_26 hx hG ha kf_RX12_195 (v := (s0 a 26)) (by rw [e_s1, zU_at (Or.inr (by decide))]) dX12_rests_51 ?_
      refine j_icmp_gt hx 127 dX12_rests_54 rfl ⟨by decide, by decide⟩ (by omega) (fun h30 => ?_) (fun h30 => absurd h30 (by omega))
      refine j_iload_n hx 6 dX12_rests_127 rfl ?_
      refine j_if_ne hx 135 dX12_rests_128 rfl (by omega) (fun h31 => ?_) (fun h31 => ?_)
      · skip
        refine j_iload hx 2 dX12_rests_135 rfl ?_
        exact j_iret hx hq rfl (by decide) (by decide) dX12_rests_137 ⟨0, rfl, rfl, hS_s1, (zFr_u zFr_rf e_s1 ha (by decide)), ⟨(by omega), by omega⟩⟩
      · skip
        refine j_iload_n hx 3 dX12_rests_131 rfl ?_
        refine j_goto hx 137 dX12_rests_132 rfl ?_
        exact j_iret hx hq rfl (by decide) (by decide) dX12_rests_137 ⟨1, rfl, rfl, hS_s1, (zFr_u zFr_rf e_s1 ha (by decide)), ⟨(by omega), by omega⟩⟩

set_option maxHeartbeats 4000000 in
set_option maxRecDepth 20000 in
theorem c_X12_remember {E : zE} {l : Launch} (hst : l.stackTraces = false) (a : Nat) (x1 : Int) (x2 : Int) (x3 : Int) : Con E l yX12_remember cX12_remember 8 (some .int) { frames := 2, cells := 0, slots := 0, locals := 45 } (fun G s vs => vs = [.ref a, .int (zI x1), .int (zI x2), .int (zI x3)] ∧ zGK G ∧ zSK G s ∧ (gT G a = 13) ∧ ((-2147483648) ≤ x1 ∧ x1 ≤ 2147483647) ∧ ((-2147483648) ≤ x2 ∧ x2 ≤ 2147483647) ∧ ((-2147483648) ≤ x3 ∧ x3 ≤ 2147483647) ∧ (zS0m G s)) (fun G s _ => pI (fun r G2 s2 => G2 = G ∧ zSK G s2 ∧ zFr [13, 71] G s s2 ∧ ((-2147483648) ≤ r ∧ r ≤ 2147483647) ∧ s2 a 0 = 1)) := by
  refine Con.mk hst (by decide) (fun G s vs h => by rw [h.1]; exact Nat.le_of_ble_eq_true rfl) ?_
  rintro X G s0 vs ⟨rfl, hG, hS0, ha, hx1, hx2, hx3, hF0⟩ rfl hx hq
  show JJ X E 8 G s0 0 0 [(0, .ref a), (1, .int (zI x1)), (2, .int (zI x2)), (3, .int (zI x3))] 0 []
  refine j_aload_n hx 0 dX12_remember_0 rfl ?_
  refine j_iconst hx dX12_remember_1 ?_
  refine p13_0 hx hG ha kf_RX12_3 dX12_remember_2 ?_
  obtain ⟨s1, e_s1⟩ : ∃ z, z = zU s0 a 0 0 := ⟨_, rfl⟩
  rw [← e_s1]
  have hS_s1 : zSK G s1 := by rw [e_s1]; exact zSK_F hS0 ha rfl rfl rfl (by omega)
  refine j_aload_n hx 0 dX12_remember_5 rfl ?_
  refine j_iload_n hx 1 dX12_remember_6 rfl ?_
  refine j_iconst hx dX12_remember_7 ?_
  have g1 : s1 a 0 = 0 := (by rw [e_s1, zU_eq])
  refine j_callV hx hG (c_X12_isPlayer hst a x1 1) lk_RX12_339 ha (by decide) rfl rfl rfl rfl [.int (zI x1), .int (zI 1)] ⟨rfl, hG, hS_s1, ha, (by omega), (by omega), (((by rw [e_s1, zU_eq]) : s1 a 0 = 0).trans (by omega))⟩ rfl rfl ⟨by decide, by decide⟩ ⟨by decide, by decide⟩ (k2 := 0) (n2 := 0) rfl rfl (Nat.le_of_ble_eq_true rfl) dX12_remember_8 (kIM (fun v2 s2 hS_s2 hF_s2 q3 => ?_))
  refine j_if_eq hx 46 dX12_remember_11 rfl (by omega) (fun h4 => ?_) (fun h4 => absurd h4 (by omega))
  refine j_iconst hx dX12_remember_46 ?_
  exact j_iret hx hq rfl (by decide) (by decide) dX12_remember_47 ⟨0, rfl, rfl, hS_s2, (zFr_t (zFr_u zFr_rf e_s1 ha (by decide)) hF_s2 (by decide)), ⟨(by omega), by omega⟩⟩

set_option maxHeartbeats 4000000 in
set_option maxRecDepth 20000 in
theorem c_X12_odds {E : zE} {l : Launch} (hst : l.stackTraces = false) (a : Nat) (x1 : Int) (x2 : Int) (x3 : Int) : Con E l yX12_odds cX12_odds 9 (some .long) { frames := 2, cells := 0, slots := 0, locals := 45 } (fun G s vs => vs = [.ref a, .int (zI x1), .int (zI x2), .int (zI x3)] ∧ zGK G ∧ zSK G s ∧ (gT G a = 13) ∧ ((-2147483648) ≤ x1 ∧ x1 ≤ 2147483647) ∧ ((-2147483648) ≤ x2 ∧ x2 ≤ 2147483647) ∧ ((-2147483648) ≤ x3 ∧ x3 ≤ 2147483647) ∧ (zS0m G s)) (fun G s _ => pL (fun r G2 s2 => G2 = G ∧ zSK G s2 ∧ zFr [13, 71] G s s2 ∧ ((-9223372036854775808) ≤ r ∧ r ≤ 9223372036854775807) ∧ s2 a 0 = 1)) := by
  refine Con.mk hst (by decide) (fun G s vs h => by rw [h.1]; exact Nat.le_of_ble_eq_true rfl) ?_
  rintro X G s0 vs ⟨rfl, hG, hS0, ha, hx1, hx2, hx3, hF0⟩ rfl hx hq
  show JJ X E 9 G s0 0 0 [(0, .ref a), (1, .int (zI x1)), (2, .int (zI x2)), (3, .int (zI x3))] 0 []
  refine j_aload_n hx 0 dX12_odds_0 rfl ?_
  refine j_iconst hx dX12_odds_1 ?_
  refine p13_0 hx hG ha kf_RX12_3 dX12_odds_2 ?_
  obtain ⟨s1, e_s1⟩ : ∃ z, z = zU s0 a 0 0 := ⟨_, rfl⟩
  rw [← e_s1]
  have hS_s1 : zSK G s1 := by rw [e_s1]; exact zSK_F hS0 ha rfl rfl rfl (by omega)
  refine j_aload_n hx 0 dX12_odds_5 rfl ?_
  refine j_iload_n hx 1 dX12_odds_6 rfl ?_
  refine j_iconst hx dX12_odds_7 ?_
  have g1 : s1 a 0 = 0 := (by rw [e_s1, zU_eq])
  refine j_callV hx hG (c_X12_isPlayer hst a x1 1) lk_RX12_339 ha (by decide) rfl rfl rfl rfl [.int (zI x1), .int (zI 1)] ⟨rfl, hG, hS_s1, ha, (by omega), (by omega), (((by rw [e_s1, zU_eq]) : s1 a 0 = 0).trans (by omega))⟩ rfl rfl ⟨by decide, by decide⟩ ⟨by decide, by decide⟩ (k2 := 0) (n2 := 0) rfl rfl (Nat.le_of_ble_eq_true rfl) dX12_odds_8 (kIM (fun v2 s2 hS_s2 hF_s2 q3 => ?_))
  refine j_if_eq hx 47 dX12_odds_11 rfl (by omega) (fun h4 => ?_) (fun h4 => absurd h4 (by omega))
  refine j_lconst hx dX12_odds_47 ?_
  show JJ X E 9 G s2 0 0 [(0, .ref a), (1, .int (zI x1)), (2, .int (zI x2)), (3, .int (zI x3))] 48 [.long (zL 0)]
  exact j_lret hx hq rfl (by decide) (by decide) dX12_odds_48 ⟨0, rfl, rfl, hS_s2, (zFr_t (zFr_u zFr_rf e_s1 ha (by decide)) hF_s2 (by decide)), ⟨(by omega), by omega⟩⟩

set_option maxHeartbeats 4000000 in
set_option maxRecDepth 20000 in
theorem c_X12_shuffles {E : zE} {l : Launch} (hst : l.stackTraces = false) (a : Nat) (x1 : Int) : Con E l yX12_shuffles cX12_shuffles 8 none { frames := 0, cells := 0, slots := 0, locals := 0 } (fun G s vs => vs = [.ref a, .int (zI x1)] ∧ zGK G ∧ zSK G s ∧ (gT G a = 13) ∧ ((-2147483648) ≤ x1 ∧ x1 ≤ 2147483647)) (fun G s _ => pV (fun G2 s2 => G2 = G ∧ s2 = s ∧ True)) := by
  refine Con.mk hst (by decide) (fun G s vs h => by rw [h.1]; exact Nat.le_of_ble_eq_true rfl) ?_
  rintro X G s0 vs ⟨rfl, hG, hS0, ha, hx1⟩ rfl hx hq
  show JJ X E 8 G s0 0 0 [(0, .ref a), (1, .int (zI x1))] 0 []
  refine j_iload_n hx 1 dX12_shuffles_0 rfl ?_
  refine j_istore_n hx [(2, .int (zI x1)), (0, .ref a), (1, .int (zI x1))] dX12_shuffles_1 (by decide) rfl ?_
  refine j_iconst hx dX12_shuffles_2 ?_
  refine j_istore_n hx [(3, .int (zI 0)), (2, .int (zI x1)), (0, .ref a), (1, .int (zI x1))] dX12_shuffles_3 (by decide) rfl ?_
  refine j_iload_n hx 0 dX12_shuffles_4 rfl ?_
  refine j_aload_n hx 2 dX12_shuffles_5 rfl ?_
  have f1 := zf hS0 ha (k := 24) rfl
  refine g13_24 hx hG ha kf_RX12_189 rfl dX12_shuffles_6 ?_
  refine j_icmp_ge hx 118 dX12_shuffles_9 rfl ⟨by decide, by decide⟩ (by omega) (fun h2 => ?_) (fun h2 => absurd h2 (by omega))
  exact j_vret hx hq rfl (by decide) (by decide) dX12_shuffles_118 ⟨rfl, rfl, rfl, trivial⟩

theorem lk_RX12_495 : LkV RX12 495 RX12 yX12_shuffles cX12_shuffles 8 none 1 := ⟨km_RX12_495, ki_yX12_shuffles, ks_RX12_yX12_shuffles, kn_RX12, kc_yX12_shuffles, rfl, by decide +kernel, by decide +kernel, by decide +kernel⟩
set_option maxHeartbeats 4000000 in
set_option maxRecDepth 20000 in
theorem c_X12_shuffle {E : zE} {l : Launch} (hst : l.stackTraces = false) (a : Nat) (x1 : Int) : Con E l yX12_shuffle cX12_shuffle 2 none { frames := 1, cells := 0, slots := 0, locals := 27 } (fun G s vs => vs = [.ref a, .int (zI x1)] ∧ zGK G ∧ zSK G s ∧ (gT G a = 13) ∧ ((-2147483648) ≤ x1 ∧ x1 ≤ 2147483647) ∧ (zS0m G s)) (fun G s _ => pV (fun G2 s2 => G2 = G ∧ zSK G s2 ∧ zFr [13, 85] G s s2 ∧ s2 a 0 = 0)) := by
  refine Con.mk hst (by decide) (fun G s vs h => by rw [h.1]; exact Nat.le_of_ble_eq_true rfl) ?_
  rintro X G s0 vs ⟨rfl, hG, hS0, ha, hx1, hF0⟩ rfl hx hq
  show JJ X E 2 G s0 0 0 [(0, .ref a), (1, .int (zI x1))] 0 []
  refine j_aload_n hx 0 dX12_shuffle_0 rfl ?_
  refine j_iconst hx dX12_shuffle_1 ?_
  refine p13_0 hx hG ha kf_RX12_3 dX12_shuffle_2 ?_
  obtain ⟨s1, e_s1⟩ : ∃ z, z = zU s0 a 0 0 := ⟨_, rfl⟩
  rw [← e_s1]
  have hS_s1 : zSK G s1 := by rw [e_s1]; exact zSK_F hS0 ha rfl rfl rfl (by omega)
  refine j_aload_n hx 0 dX12_shuffle_5 rfl ?_
  refine j_iload_n hx 1 dX12_shuffle_6 rfl ?_
  refine j_callV hx hG (c_X12_shuffles hst a x1) lk_RX12_495 ha (by decide) rfl rfl rfl rfl [.int (zI x1)] ⟨rfl, hG, hS_s1, ha, (by omega)⟩ rfl rfl ⟨by decide, by decide⟩ ⟨by decide, by decide⟩ (k2 := 0) (n2 := 0) rfl rfl (Nat.le_of_ble_eq_true rfl) dX12_shuffle_7 (kVP (fun q2 => ?_))
  refine j_aload_n hx 0 dX12_shuffle_10 rfl ?_
  refine j_callV hx hG (c_X12_stays hst a) lk_RX12_207 ha (by decide) rfl rfl rfl rfl [] ⟨rfl, hG, hS_s1, ha⟩ rfl rfl ⟨by decide, by decide⟩ ⟨by decide, by decide⟩ (k2 := 0) (n2 := 0) rfl rfl (Nat.le_of_ble_eq_true rfl) dX12_shuffle_11 (kVM (fun s2 hS_s2 hF_s2 q4 => ?_))
  have g5 : s2 a 0 = 0 := (by rw [(zFr_g hF_s2 ha (by decide)), e_s1, zU_eq])
  exact j_vret hx hq rfl (by decide) (by decide) dX12_shuffle_14 ⟨rfl, rfl, hS_s2, (zFr_t (zFr_u zFr_rf e_s1 ha (by decide)) hF_s2 (by decide)), by omega⟩

set_option maxHeartbeats 4000000 in
set_option maxRecDepth 20000 in
theorem c_X12_lot {E : zE} {l : Launch} (hst : l.stackTraces = false) (a : Nat) (x1 : Int) (x2 : Int) (x3 : Int) : Con E l yX12_lot cX12_lot 5 (some .int) { frames := 4, cells := 0, slots := 0, locals := 87 } (fun G s vs => vs = [.ref a, .int (zI x1), .int (zI x2), .int (zI x3)] ∧ zGK G ∧ zSK G s ∧ (gT G a = 13) ∧ ((-2147483648) ≤ x1 ∧ x1 ≤ 2147483647) ∧ ((-2147483648) ≤ x2 ∧ x2 ≤ 2147483647) ∧ ((-2147483648) ≤ x3 ∧ x3 ≤ 2147483647) ∧ (zS0m G s)) (fun G s _ => pI (fun r G2 s2 => G2 = G ∧ zSK G s2 ∧ zFr [13, 71, 84, 87, 99, 100, 101, 102, 103, 105] G s s2 ∧ (0 ≤ r ∧ r ≤ 0) ∧ (((1 ≤ x2 ∧ x2 ≤ 20 ∧ 0 ≤ x3 ∧ x3 ≤ 5) → s2 a 0 = 0) ∧ (¬ (1 ≤ x2 ∧ x2 ≤ 20 ∧ 0 ≤ x3 ∧ x3 ≤ 5) → s2 a 0 = 1)))) := by
  refine Con.mk hst (by decide) (fun G s vs h => by rw [h.1]; exact Nat.le_of_ble_eq_true rfl) ?_
  rintro X G s0 vs ⟨rfl, hG, hS0, ha, hx1, hx2, hx3, hF0⟩ rfl hx hq
  show JJ X E 5 G s0 0 0 [(0, .ref a), (1, .int (zI x1)), (2, .int (zI x2)), (3, .int (zI x3))] 0 []
  refine j_aload_n hx 0 dX12_lot_0 rfl ?_
  refine j_iconst hx dX12_lot_1 ?_
  refine p13_0 hx hG ha kf_RX12_3 dX12_lot_2 ?_
  obtain ⟨s1, e_s1⟩ : ∃ z, z = zU s0 a 0 0 := ⟨_, rfl⟩
  rw [← e_s1]
  have hS_s1 : zSK G s1 := by rw [e_s1]; exact zSK_F hS0 ha rfl rfl rfl (by omega)
  refine j_aload_n hx 0 dX12_lot_5 rfl ?_
  refine j_iload_n hx 2 dX12_lot_6 rfl ?_
  refine j_iconst hx dX12_lot_7 ?_
  refine j_bipush hx dX12_lot_8 rfl ?_
  refine j_callS hx (c_X12_within hst x2 1 20) lk_RX12_314 [.int (zI x2), .int (zI 1), .int (zI 20)] ⟨rfl, hG, hS_s1, (by omega), (by omega), (by omega)⟩ rfl rfl ⟨by decide, by decide⟩ ⟨by decide, by decide⟩ (k2 := 0) (n2 := 0) rfl rfl (Nat.le_of_ble_eq_true rfl) dX12_lot_10 (kIP (fun v1 q2 => ?_))
  refine j_if_eq hx 29 dX12_lot_13 rfl (by omega) (fun h3 => ?_) (fun h3 => ?_)
  · skip
    refine j_iconst hx dX12_lot_29 ?_
    refine j_iconst hx dX12_lot_30 ?_
    refine j_iconst hx dX12_lot_31 ?_
    have g4 : s1 a 0 = 0 := (by rw [e_s1, zU_eq])
    refine j_callV hx hG (c_X12_may_f hst a 0 1 1) lk_RX12_240 ha (by decide) rfl rfl rfl rfl [.int (zI 0), .int (zI 1), .int (zI 1)] ⟨rfl, hG, hS_s1, ha, (by omega), (by omega), (by omega), (((by rw [e_s1, zU_eq]) : s1 a 0 = 0).trans (by omega))⟩ rfl rfl ⟨by decide, by decide⟩ ⟨by decide, by decide⟩ (k2 := 0) (n2 := 0) rfl rfl (Nat.le_of_ble_eq_true rfl) dX12_lot_32 (kIM (fun v5 s2 hS_s2 hF_s2 q6 => ?_))
    refine j_if_ne hx 40 dX12_lot_35 rfl (by omega) (fun h7 => absurd h7 (by omega)) (fun h7 => ?_)
    refine j_iconst hx dX12_lot_38 ?_
    exact j_iret hx hq rfl (by decide) (by decide) dX12_lot_39 ⟨0, rfl, rfl, hS_s2, (zFr_t (zFr_u zFr_rf e_s1 ha (by decide)) hF_s2 (by decide)), ⟨(by omega), by omega⟩⟩
  · skip
    refine j_iload_n hx 3 dX12_lot_16 rfl ?_
    refine j_iconst hx dX12_lot_17 ?_
    refine j_iconst hx dX12_lot_18 ?_
    refine j_callS hx (c_X12_within hst x3 0 5) lk_RX12_314 [.int (zI x3), .int (zI 0), .int (zI 5)] ⟨rfl, hG, hS_s1, (by omega), (by omega), (by omega)⟩ rfl rfl ⟨by decide, by decide⟩ ⟨by decide, by decide⟩ (k2 := 0) (n2 := 0) rfl rfl (Nat.le_of_ble_eq_true rfl) dX12_lot_19 (kIP (fun v8 q9 => ?_))
    refine j_if_eq hx 29 dX12_lot_22 rfl (by omega) (fun h10 => ?_) (fun h10 => ?_)
    · skip
      refine j_iconst hx dX12_lot_29 ?_
      refine j_iconst hx dX12_lot_30 ?_
      refine j_iconst hx dX12_lot_31 ?_
      have g11 : s1 a 0 = 0 := (by rw [e_s1, zU_eq])
      refine j_callV hx hG (c_X12_may_f hst a 0 1 1) lk_RX12_240 ha (by decide) rfl rfl rfl rfl [.int (zI 0), .int (zI 1), .int (zI 1)] ⟨rfl, hG, hS_s1, ha, (by omega), (by omega), (by omega), (((by rw [e_s1, zU_eq]) : s1 a 0 = 0).trans (by omega))⟩ rfl rfl ⟨by decide, by decide⟩ ⟨by decide, by decide⟩ (k2 := 0) (n2 := 0) rfl rfl (Nat.le_of_ble_eq_true rfl) dX12_lot_32 (kIM (fun v12 s3 hS_s3 hF_s3 q13 => ?_))
      refine j_if_ne hx 40 dX12_lot_35 rfl (by omega) (fun h14 => absurd h14 (by omega)) (fun h14 => ?_)
      refine j_iconst hx dX12_lot_38 ?_
      exact j_iret hx hq rfl (by decide) (by decide) dX12_lot_39 ⟨0, rfl, rfl, hS_s3, (zFr_t (zFr_u zFr_rf e_s1 ha (by decide)) hF_s3 (by decide)), ⟨(by omega), by omega⟩⟩
    · skip
      refine j_iconst hx dX12_lot_25 ?_
      refine j_goto hx 30 dX12_lot_26 rfl ?_
      refine j_iconst hx dX12_lot_30 ?_
      refine j_iconst hx dX12_lot_31 ?_
      have g15 : s1 a 0 = 0 := (by rw [e_s1, zU_eq])
      refine j_callV hx hG (c_X12_may_t hst a 1 1 1) lk_RX12_240 ha (by decide) rfl rfl rfl rfl [.int (zI 1), .int (zI 1), .int (zI 1)] ⟨rfl, hG, hS_s1, ha, (by omega), (by omega), (by omega), (((by rw [e_s1, zU_eq]) : s1 a 0 = 0).trans (by omega))⟩ rfl rfl ⟨by decide, by decide⟩ ⟨by decide, by decide⟩ (k2 := 0) (n2 := 0) rfl rfl (Nat.le_of_ble_eq_true rfl) dX12_lot_32 (kIP (fun v16 q17 => ?_))
      refine j_if_ne hx 40 dX12_lot_35 rfl (by omega) (fun h18 => ?_) (fun h18 => absurd h18 (by omega))
      refine j_iconst hx dX12_lot_40 ?_
      refine j_istore hx [(4, .int (zI 0)), (0, .ref a), (1, .int (zI x1)), (2, .int (zI x2)), (3, .int (zI x3))] dX12_lot_41 (by decide) rfl ?_
      have c43_4 : ∀ (m_c43_4 : Nat) (v19 : Int) (s5 : zS), 2147483648 - v19 < m_c43_4 → (0 ≤ v19 ∧ v19 ≤ 6) → (zSK G s5) → (zFr [105] G s1 s5) → JJ X E 5 G s5 0 0 [(0, .ref a), (1, .int (zI x1)), (2, .int (zI x2)), (3, .int (zI x3)), (4, .int (zI v19))] 43 [] := by
        intro m_c43_4
        induction m_c43_4 with
        | zero => intro v19 s5 hm_c43_4 fA6 hS_s5 hF_s5; exfalso; omega
        | succ m_c43_4 ih_c43_4 => 
          intro v19 s5 hm_c43_4 fA6 hS_s5 hF_s5
          refine j_iload hx 4 dX12_lot_43 rfl ?_
          refine j_bipush hx dX12_lot_45 rfl ?_
          refine j_icmp_ge hx 64 dX12_lot_47 rfl (by omega) ⟨by decide, by decide⟩ (fun h20 => ?_) (fun h20 => ?_)
          · skip
            refine j_aload_n hx 0 dX12_lot_64 rfl ?_
            refine j_callV hx hG (c_X12_keeps hst a) lk_RX12_444 ha (by decide) rfl rfl rfl rfl [] ⟨rfl, hG, hS_s5, ha⟩ rfl rfl ⟨by decide, by decide⟩ ⟨by decide, by decide⟩ (k2 := 0) (n2 := 0) rfl rfl (Nat.le_of_ble_eq_true rfl) dX12_lot_65 (kVM (fun s9 hS_s9 hF_s9 q22 => ?_))
            refine j_iconst hx dX12_lot_68 ?_
            refine j_istore hx [(4, .int (zI 0)), (0, .ref a), (1, .int (zI x1)), (2, .int (zI x2)), (3, .int (zI x3))] dX12_lot_69 (by decide) rfl ?_
            have g24 : s9 a 0 = 0 := (by rw [(zFr_g hF_s9 ha (by decide)), (zFr_g hF_s5 ha (by decide)), e_s1, zU_eq])
            have c71_10 : ∀ (m_c71_10 : Nat) (v23 : Int) (s11 : zS), 2147483648 - v23 < m_c71_10 → (0 ≤ v23 ∧ v23 ≤ 2147483647) → (zSK G s11) → (zFr [13, 84, 87, 101, 102, 103, 105] G s9 s11) → (s11 a 0 = s9 a 0) → JJ X E 5 G s11 0 0 [(0, .ref a), (1, .int (zI x1)), (2, .int (zI x2)), (3, .int (zI x3)), (4, .int (zI v23))] 71 [] := by
              intro m_c71_10
              induction m_c71_10 with
              | zero => intro v23 s11 hm_c71_10 fA12 hS_s11 hF_s11 fA15; exfalso; omega
              | succ m_c71_10 ih_c71_10 => 
                intro v23 s11 hm_c71_10 fA12 hS_s11 hF_s11 fA15
                refine j_iload hx 4 dX12_lot_71 rfl ?_
                refine j_iload_n hx 2 dX12_lot_73 rfl ?_
                refine j_icmp_ge hx 213 dX12_lot_74 rfl (by omega) (by omega) (fun h25 => ?_) (fun h25 => ?_)
                · skip
                  refine j_aload_n hx 0 dX12_lot_213 rfl ?_
                  refine g13_56 hx hG ha kf_RX12_121 dX12_lot_214 ?_
                  refine j_iload_n hx 3 dX12_lot_217 rfl ?_
                  have f26 := zaI (j := (x3).toNat) hS_s11 (zr (k := 56) (t2 := 105) hG ha rfl) rfl (zlen hG (zr (k := 56) (t2 := 105) hG ha rfl) (n := 6) rfl rfl) (show 0 ≤ x3 by omega) (by omega) rfl
                  refine j_iald hx hG (zr (k := 56) (t2 := 105) hG ha rfl) (by decide) rfl (zlen hG (zr (k := 56) (t2 := 105) hG ha rfl) (n := 6) rfl rfl) (by omega) (by omega) (j := (x3).toNat) rfl rfl dX12_lot_218 ?_
                  have f27 := zf hS_s11 ha (k := 0) rfl
                  exact j_iret hx hq rfl (by decide) (by decide) dX12_lot_219 ⟨(s11 (gP G a 56) (x3).toNat), rfl, rfl, hS_s11, (zFr_t (zFr_t (zFr_t (zFr_u zFr_rf e_s1 ha (by decide)) hF_s5 (by decide)) hF_s9 (by decide)) hF_s11 (by decide)), ⟨(by omega), by omega⟩⟩
                · skip
                  refine j_aload_n hx 0 dX12_lot_77 rfl ?_
                  refine j_iload_n hx 1 dX12_lot_78 rfl ?_
                  refine j_iload hx 4 dX12_lot_79 rfl ?_
                  refine j_iadd hx (r := x1 + v23) dX12_lot_81 rfl ?_
                  refine j_norm (fun v28 f29 f30 f31 => ?_)
                  refine j_callV hx hG (c_X12_shuffles hst a v28) lk_RX12_495 ha (by decide) rfl rfl rfl rfl [.int (zI v28)] ⟨rfl, hG, hS_s11, ha, (by omega)⟩ rfl rfl ⟨by decide, by decide⟩ ⟨by decide, by decide⟩ (k2 := 0) (n2 := 0) rfl rfl (Nat.le_of_ble_eq_true rfl) dX12_lot_82 (kVP (fun q33 => ?_))
                  refine j_aload_n hx 0 dX12_lot_85 rfl ?_
                  have f34 := zf hS_s11 ha (k := 0) rfl
                  refine j_callV hx hG (c_X12_findEnds hst a) lk_RX12_447 ha (by decide) rfl rfl rfl rfl [] ⟨rfl, hG, hS_s11, ha⟩ rfl rfl ⟨by decide, by decide⟩ ⟨by decide, by decide⟩ (k2 := 0) (n2 := 0) rfl rfl (Nat.le_of_ble_eq_true rfl) dX12_lot_86 (kVM (fun s16 hS_s16 hF_s16 q36 => ?_))
                  refine j_aload_n hx 0 dX12_lot_89 rfl ?_
                  refine j_callV hx hG (c_X12_back hst a) lk_RX12_450 ha (by decide) rfl rfl rfl rfl [] ⟨rfl, hG, hS_s16, ha⟩ rfl rfl ⟨by decide, by decide⟩ ⟨by decide, by decide⟩ (k2 := 0) (n2 := 0) rfl rfl (Nat.le_of_ble_eq_true rfl) dX12_lot_90 (kVM (fun s17 hS_s17 hF_s17 q38 => ?_))
                  refine j_aload_n hx 0 dX12_lot_93 rfl ?_
                  refine g13_56 hx hG ha kf_RX12_121 dX12_lot_94 ?_
                  refine j_iconst hx dX12_lot_97 ?_
                  refine j_iload hx 4 dX12_lot_98 rfl ?_
                  refine j_if_eq hx 116 dX12_lot_100 rfl (by omega) (fun h39 => ?_) (fun h39 => ?_)
                  · skip
                    refine j_aload_n hx 0 dX12_lot_116 rfl ?_
                    refine g13_52 hx hG ha kf_RX12_429 (v := (s16 a 52)) (by rw [(zFr_g hF_s17 ha (by decide))]) dX12_lot_117 ?_
                    refine j_goto hx 129 dX12_lot_120 rfl ?_
                    refine j_iast hx hG (zr (k := 56) (t2 := 105) hG ha rfl) (by decide) rfl (zlen hG (zr (k := 56) (t2 := 105) hG ha rfl) (n := 6) rfl rfl) (by omega) (by omega) (j := 0) rfl dX12_lot_129 ?_
                    obtain ⟨s18, e_s18⟩ : ∃ z, z = zU s17 (gP G a 56) 0 ((s16 a 52)) := ⟨_, rfl⟩
                    rw [← e_s18]
                    have hS_s18 : zSK G s18 := by rw [e_s18]; exact zSK_A hS_s17 (zr (k := 56) (t2 := 105) hG ha rfl) rfl rfl rfl (by omega)
                    refine j_aload_n hx 0 dX12_lot_130 rfl ?_
                    refine g13_56 hx hG ha kf_RX12_121 dX12_lot_131 ?_
                    refine j_iconst hx dX12_lot_134 ?_
                    refine j_aload_n hx 0 dX12_lot_135 rfl ?_
                    refine g13_52 hx hG ha kf_RX12_429 (v := (s16 a 52)) (by rw [e_s18, zU_at (Or.inl (zne (zr (k := 56) (t2 := 105) hG ha rfl) ha (by decide))), (zFr_g hF_s17 ha (by decide))]) dX12_lot_136 ?_
                    refine j_aload_n hx 0 dX12_lot_139 rfl ?_
                    refine g13_56 hx hG ha kf_RX12_121 dX12_lot_140 ?_
                    refine j_iconst hx dX12_lot_143 ?_
                    have f40 := zaI (j := 1) hS_s11 (zr (k := 56) (t2 := 105) hG ha rfl) rfl (zlen hG (zr (k := 56) (t2 := 105) hG ha rfl) (n := 6) rfl rfl) (show 0 ≤ 1 by omega) (by omega) rfl
                    refine j_iald hx hG (zr (k := 56) (t2 := 105) hG ha rfl) (by decide) rfl (zlen hG (zr (k := 56) (t2 := 105) hG ha rfl) (n := 6) rfl rfl) (by omega) (by omega) (j := 1) rfl (v := (s11 (gP G a 56) 1)) (by rw [e_s18, zU_at (Or.inr (by decide)), (zFr_g hF_s17 (zr (k := 56) (t2 := 105) hG ha rfl) (by decide)), (zFr_g hF_s16 (zr (k := 56) (t2 := 105) hG ha rfl) (by decide))]) dX12_lot_144 ?_
                    refine j_icmp_le hx 155 dX12_lot_145 rfl (by omega) (by omega) (fun h41 => ?_) (fun h41 => absurd h41 (by omega))
                    refine j_aload_n hx 0 dX12_lot_155 rfl ?_
                    refine g13_56 hx hG ha kf_RX12_121 dX12_lot_156 ?_
                    refine j_iconst hx dX12_lot_159 ?_
                    refine j_iald hx hG (zr (k := 56) (t2 := 105) hG ha rfl) (by decide) rfl (zlen hG (zr (k := 56) (t2 := 105) hG ha rfl) (n := 6) rfl rfl) (by omega) (by omega) (j := 1) rfl (v := (s11 (gP G a 56) 1)) (by rw [e_s18, zU_at (Or.inr (by decide)), (zFr_g hF_s17 (zr (k := 56) (t2 := 105) hG ha rfl) (by decide)), (zFr_g hF_s16 (zr (k := 56) (t2 := 105) hG ha rfl) (by decide))]) dX12_lot_160 ?_
                    refine j_iast hx hG (zr (k := 56) (t2 := 105) hG ha rfl) (by decide) rfl (zlen hG (zr (k := 56) (t2 := 105) hG ha rfl) (n := 6) rfl rfl) (by omega) (by omega) (j := 1) rfl dX12_lot_161 ?_
                    obtain ⟨s19, e_s19⟩ : ∃ z, z = zU s18 (gP G a 56) 1 ((s11 (gP G a 56) 1)) := ⟨_, rfl⟩
                    rw [← e_s19]
                    have hS_s19 : zSK G s19 := by rw [e_s19]; exact zSK_A hS_s18 (zr (k := 56) (t2 := 105) hG ha rfl) rfl rfl rfl (by omega)
                    refine j_aload_n hx 0 dX12_lot_162 rfl ?_
                    refine g13_54 hx hG ha kf_RX12_441 (v := (s16 a 54)) (by rw [e_s19, zU_at (Or.inl (zne (zr (k := 56) (t2 := 105) hG ha rfl) ha (by decide))), e_s18, zU_at (Or.inl (zne (zr (k := 56) (t2 := 105) hG ha rfl) ha (by decide))), (zFr_g hF_s17 ha (by decide))]) dX12_lot_163 ?_
                    refine j_iconst hx dX12_lot_166 ?_
                    refine j_icmp_eq hx 185 dX12_lot_167 rfl (by omega) ⟨by decide, by decide⟩ (fun h42 => ?_) (fun h42 => absurd h42 (by omega))
                    refine j_aload_n hx 0 dX12_lot_185 rfl ?_
                    refine g13_56 hx hG ha kf_RX12_121 dX12_lot_186 ?_
                    refine j_iconst hx dX12_lot_189 ?_
                    refine j_dup2 hx dX12_lot_190 rfl rfl ?_
                    have f43 := zaI (j := 5) hS_s11 (zr (k := 56) (t2 := 105) hG ha rfl) rfl (zlen hG (zr (k := 56) (t2 := 105) hG ha rfl) (n := 6) rfl rfl) (show 0 ≤ 5 by omega) (by omega) rfl
                    refine j_iald hx hG (zr (k := 56) (t2 := 105) hG ha rfl) (by decide) rfl (zlen hG (zr (k := 56) (t2 := 105) hG ha rfl) (n := 6) rfl rfl) (by omega) (by omega) (j := 5) rfl (v := (s11 (gP G a 56) 5)) (by rw [e_s19, zU_at (Or.inr (by decide)), e_s18, zU_at (Or.inr (by decide)), (zFr_g hF_s17 (zr (k := 56) (t2 := 105) hG ha rfl) (by decide)), (zFr_g hF_s16 (zr (k := 56) (t2 := 105) hG ha rfl) (by decide))]) dX12_lot_191 ?_
                    refine j_aload_n hx 0 dX12_lot_192 rfl ?_
                    refine g13_51 hx hG ha kf_RX12_432 (v := (s16 a 51)) (by rw [e_s19, zU_at (Or.inl (zne (zr (k := 56) (t2 := 105) hG ha rfl) ha (by decide))), e_s18, zU_at (Or.inl (zne (zr (k := 56) (t2 := 105) hG ha rfl) ha (by decide))), (zFr_g hF_s17 ha (by decide))]) dX12_lot_193 ?_
                    refine j_iconst hx dX12_lot_196 ?_
                    refine j_icmp_ne hx 204 dX12_lot_197 rfl (by omega) ⟨by decide, by decide⟩ (fun h44 => absurd h44 (by omega)) (fun h44 => ?_)
                    refine j_iconst hx dX12_lot_200 ?_
                    refine j_goto hx 205 dX12_lot_201 rfl ?_
                    refine j_iadd hx (r := (s11 (gP G a 56) 5)) dX12_lot_205 (by omega) ?_
                    refine j_iast hx hG (zr (k := 56) (t2 := 105) hG ha rfl) (by decide) rfl (zlen hG (zr (k := 56) (t2 := 105) hG ha rfl) (n := 6) rfl rfl) (by omega) (by omega) (j := 5) rfl dX12_lot_206 ?_
                    obtain ⟨s20, e_s20⟩ : ∃ z, z = zU s19 (gP G a 56) 5 ((s11 (gP G a 56) 5)) := ⟨_, rfl⟩
                    rw [← e_s20]
                    have hS_s20 : zSK G s20 := by rw [e_s20]; exact zSK_A hS_s19 (zr (k := 56) (t2 := 105) hG ha rfl) rfl rfl rfl (by omega)
                    refine j_iinc hx 4 [(4, .int (zI (v23 + 1))), (0, .ref a), (1, .int (zI x1)), (2, .int (zI x2)), (3, .int (zI x3))] dX12_lot_207 rfl (by omega) (by decide) rfl ?_
                    refine j_goto hx 71 dX12_lot_210 rfl ?_
                    have g45 : s20 a 0 = s16 a 0 := (by rw [e_s20, zU_at (Or.inl (zne (zr (k := 56) (t2 := 105) hG ha rfl) ha (by decide))), e_s19, zU_at (Or.inl (zne (zr (k := 56) (t2 := 105) hG ha rfl) ha (by decide))), e_s18, zU_at (Or.inl (zne (zr (k := 56) (t2 := 105) hG ha rfl) ha (by decide))), (zFr_g hF_s17 ha (by decide))])
                    have f46 := zf hS_s16 ha (k := 0) rfl
                    exact j_sub [1, 2, 3, 4, 0] [(0, .ref a), (1, .int (zI x1)), (2, .int (zI x2)), (3, .int (zI x3)), (4, .int (zI (v23 + 1)))] rfl (ih_c71_10 (v23 + 1) s20 (by omega) (by omega) hS_s20 (zFr_u (zFr_u (zFr_u (zFr_t (zFr_t (zFr_t zFr_rf hF_s11 (by decide)) hF_s16 (by decide)) hF_s17 (by decide)) e_s18 (zr (k := 56) (t2 := 105) hG ha rfl) (by decide)) e_s19 (zr (k := 56) (t2 := 105) hG ha rfl) (by decide)) e_s20 (zr (k := 56) (t2 := 105) hG ha rfl) (by decide)) (by omega))
                  · skip
                    refine j_aload_n hx 0 dX12_lot_103 rfl ?_
                    refine g13_52 hx hG ha kf_RX12_429 (v := (s16 a 52)) (by rw [(zFr_g hF_s17 ha (by decide))]) dX12_lot_104 ?_
                    refine j_aload_n hx 0 dX12_lot_107 rfl ?_
                    refine g13_56 hx hG ha kf_RX12_121 dX12_lot_108 ?_
                    refine j_iconst hx dX12_lot_111 ?_
                    have f47 := zaI (j := 0) hS_s11 (zr (k := 56) (t2 := 105) hG ha rfl) rfl (zlen hG (zr (k := 56) (t2 := 105) hG ha rfl) (n := 6) rfl rfl) (show 0 ≤ 0 by omega) (by omega) rfl
                    refine j_iald hx hG (zr (k := 56) (t2 := 105) hG ha rfl) (by decide) rfl (zlen hG (zr (k := 56) (t2 := 105) hG ha rfl) (n := 6) rfl rfl) (by omega) (by omega) (j := 0) rfl (v := (s11 (gP G a 56) 0)) (by rw [(zFr_g hF_s17 (zr (k := 56) (t2 := 105) hG ha rfl) (by decide)), (zFr_g hF_s16 (zr (k := 56) (t2 := 105) hG ha rfl) (by decide))]) dX12_lot_112 ?_
                    refine j_icmp_ge hx 123 dX12_lot_113 rfl (by omega) (by omega) (fun h48 => ?_) (fun h48 => absurd h48 (by omega))
                    refine j_aload_n hx 0 dX12_lot_123 rfl ?_
                    refine g13_56 hx hG ha kf_RX12_121 dX12_lot_124 ?_
                    refine j_iconst hx dX12_lot_127 ?_
                    refine j_iald hx hG (zr (k := 56) (t2 := 105) hG ha rfl) (by decide) rfl (zlen hG (zr (k := 56) (t2 := 105) hG ha rfl) (n := 6) rfl rfl) (by omega) (by omega) (j := 0) rfl (v := (s11 (gP G a 56) 0)) (by rw [(zFr_g hF_s17 (zr (k := 56) (t2 := 105) hG ha rfl) (by decide)), (zFr_g hF_s16 (zr (k := 56) (t2 := 105) hG ha rfl) (by decide))]) dX12_lot_128 ?_
                    refine j_iast hx hG (zr (k := 56) (t2 := 105) hG ha rfl) (by decide) rfl (zlen hG (zr (k := 56) (t2 := 105) hG ha rfl) (n := 6) rfl rfl) (by omega) (by omega) (j := 0) rfl dX12_lot_129 ?_
                    obtain ⟨s21, e_s21⟩ : ∃ z, z = zU s17 (gP G a 56) 0 ((s11 (gP G a 56) 0)) := ⟨_, rfl⟩
                    rw [← e_s21]
                    have hS_s21 : zSK G s21 := by rw [e_s21]; exact zSK_A hS_s17 (zr (k := 56) (t2 := 105) hG ha rfl) rfl rfl rfl (by omega)
                    refine j_aload_n hx 0 dX12_lot_130 rfl ?_
                    refine g13_56 hx hG ha kf_RX12_121 dX12_lot_131 ?_
                    refine j_iconst hx dX12_lot_134 ?_
                    refine j_aload_n hx 0 dX12_lot_135 rfl ?_
                    refine g13_52 hx hG ha kf_RX12_429 (v := (s16 a 52)) (by rw [e_s21, zU_at (Or.inl (zne (zr (k := 56) (t2 := 105) hG ha rfl) ha (by decide))), (zFr_g hF_s17 ha (by decide))]) dX12_lot_136 ?_
                    refine j_aload_n hx 0 dX12_lot_139 rfl ?_
                    refine g13_56 hx hG ha kf_RX12_121 dX12_lot_140 ?_
                    refine j_iconst hx dX12_lot_143 ?_
                    have f49 := zaI (j := 1) hS_s11 (zr (k := 56) (t2 := 105) hG ha rfl) rfl (zlen hG (zr (k := 56) (t2 := 105) hG ha rfl) (n := 6) rfl rfl) (show 0 ≤ 1 by omega) (by omega) rfl
                    refine j_iald hx hG (zr (k := 56) (t2 := 105) hG ha rfl) (by decide) rfl (zlen hG (zr (k := 56) (t2 := 105) hG ha rfl) (n := 6) rfl rfl) (by omega) (by omega) (j := 1) rfl (v := (s11 (gP G a 56) 1)) (by rw [e_s21, zU_at (Or.inr (by decide)), (zFr_g hF_s17 (zr (k := 56) (t2 := 105) hG ha rfl) (by decide)), (zFr_g hF_s16 (zr (k := 56) (t2 := 105) hG ha rfl) (by decide))]) dX12_lot_144 ?_
                    refine j_icmp_le hx 155 dX12_lot_145 rfl (by omega) (by omega) (fun h50 => ?_) (fun h50 => absurd h50 (by omega))
                    refine j_aload_n hx 0 dX12_lot_155 rfl ?_
                    refine g13_56 hx hG ha kf_RX12_121 dX12_lot_156 ?_
                    refine j_iconst hx dX12_lot_159 ?_
                    refine j_iald hx hG (zr (k := 56) (t2 := 105) hG ha rfl) (by decide) rfl (zlen hG (zr (k := 56) (t2 := 105) hG ha rfl) (n := 6) rfl rfl) (by omega) (by omega) (j := 1) rfl (v := (s11 (gP G a 56) 1)) (by rw [e_s21, zU_at (Or.inr (by decide)), (zFr_g hF_s17 (zr (k := 56) (t2 := 105) hG ha rfl) (by decide)), (zFr_g hF_s16 (zr (k := 56) (t2 := 105) hG ha rfl) (by decide))]) dX12_lot_160 ?_
                    refine j_iast hx hG (zr (k := 56) (t2 := 105) hG ha rfl) (by decide) rfl (zlen hG (zr (k := 56) (t2 := 105) hG ha rfl) (n := 6) rfl rfl) (by omega) (by omega) (j := 1) rfl dX12_lot_161 ?_
                    obtain ⟨s22, e_s22⟩ : ∃ z, z = zU s21 (gP G a 56) 1 ((s11 (gP G a 56) 1)) := ⟨_, rfl⟩
                    rw [← e_s22]
                    have hS_s22 : zSK G s22 := by rw [e_s22]; exact zSK_A hS_s21 (zr (k := 56) (t2 := 105) hG ha rfl) rfl rfl rfl (by omega)
                    refine j_aload_n hx 0 dX12_lot_162 rfl ?_
                    refine g13_54 hx hG ha kf_RX12_441 (v := (s16 a 54)) (by rw [e_s22, zU_at (Or.inl (zne (zr (k := 56) (t2 := 105) hG ha rfl) ha (by decide))), e_s21, zU_at (Or.inl (zne (zr (k := 56) (t2 := 105) hG ha rfl) ha (by decide))), (zFr_g hF_s17 ha (by decide))]) dX12_lot_163 ?_
                    refine j_iconst hx dX12_lot_166 ?_
                    refine j_icmp_eq hx 185 dX12_lot_167 rfl (by omega) ⟨by decide, by decide⟩ (fun h51 => ?_) (fun h51 => absurd h51 (by omega))
                    refine j_aload_n hx 0 dX12_lot_185 rfl ?_
                    refine g13_56 hx hG ha kf_RX12_121 dX12_lot_186 ?_
                    refine j_iconst hx dX12_lot_189 ?_
                    refine j_dup2 hx dX12_lot_190 rfl rfl ?_
                    have f52 := zaI (j := 5) hS_s11 (zr (k := 56) (t2 := 105) hG ha rfl) rfl (zlen hG (zr (k := 56) (t2 := 105) hG ha rfl) (n := 6) rfl rfl) (show 0 ≤ 5 by omega) (by omega) rfl
                    refine j_iald hx hG (zr (k := 56) (t2 := 105) hG ha rfl) (by decide) rfl (zlen hG (zr (k := 56) (t2 := 105) hG ha rfl) (n := 6) rfl rfl) (by omega) (by omega) (j := 5) rfl (v := (s11 (gP G a 56) 5)) (by rw [e_s22, zU_at (Or.inr (by decide)), e_s21, zU_at (Or.inr (by decide)), (zFr_g hF_s17 (zr (k := 56) (t2 := 105) hG ha rfl) (by decide)), (zFr_g hF_s16 (zr (k := 56) (t2 := 105) hG ha rfl) (by decide))]) dX12_lot_191 ?_
                    refine j_aload_n hx 0 dX12_lot_192 rfl ?_
                    refine g13_51 hx hG ha kf_RX12_432 (v := (s16 a 51)) (by rw [e_s22, zU_at (Or.inl (zne (zr (k := 56) (t2 := 105) hG ha rfl) ha (by decide))), e_s21, zU_at (Or.inl (zne (zr (k := 56) (t2 := 105) hG ha rfl) ha (by decide))), (zFr_g hF_s17 ha (by decide))]) dX12_lot_193 ?_
                    refine j_iconst hx dX12_lot_196 ?_
                    refine j_icmp_ne hx 204 dX12_lot_197 rfl (by omega) ⟨by decide, by decide⟩ (fun h53 => absurd h53 (by omega)) (fun h53 => ?_)
                    refine j_iconst hx dX12_lot_200 ?_
                    refine j_goto hx 205 dX12_lot_201 rfl ?_
                    refine j_iadd hx (r := (s11 (gP G a 56) 5)) dX12_lot_205 (by omega) ?_
                    refine j_iast hx hG (zr (k := 56) (t2 := 105) hG ha rfl) (by decide) rfl (zlen hG (zr (k := 56) (t2 := 105) hG ha rfl) (n := 6) rfl rfl) (by omega) (by omega) (j := 5) rfl dX12_lot_206 ?_
                    obtain ⟨s23, e_s23⟩ : ∃ z, z = zU s22 (gP G a 56) 5 ((s11 (gP G a 56) 5)) := ⟨_, rfl⟩
                    rw [← e_s23]
                    have hS_s23 : zSK G s23 := by rw [e_s23]; exact zSK_A hS_s22 (zr (k := 56) (t2 := 105) hG ha rfl) rfl rfl rfl (by omega)
                    refine j_iinc hx 4 [(4, .int (zI (v23 + 1))), (0, .ref a), (1, .int (zI x1)), (2, .int (zI x2)), (3, .int (zI x3))] dX12_lot_207 rfl (by omega) (by decide) rfl ?_
                    refine j_goto hx 71 dX12_lot_210 rfl ?_
                    have g54 : s23 a 0 = s16 a 0 := (by rw [e_s23, zU_at (Or.inl (zne (zr (k := 56) (t2 := 105) hG ha rfl) ha (by decide))), e_s22, zU_at (Or.inl (zne (zr (k := 56) (t2 := 105) hG ha rfl) ha (by decide))), e_s21, zU_at (Or.inl (zne (zr (k := 56) (t2 := 105) hG ha rfl) ha (by decide))), (zFr_g hF_s17 ha (by decide))])
                    have f55 := zf hS_s16 ha (k := 0) rfl
                    exact j_sub [1, 2, 3, 4, 0] [(0, .ref a), (1, .int (zI x1)), (2, .int (zI x2)), (3, .int (zI x3)), (4, .int (zI (v23 + 1)))] rfl (ih_c71_10 (v23 + 1) s23 (by omega) (by omega) hS_s23 (zFr_u (zFr_u (zFr_u (zFr_t (zFr_t (zFr_t zFr_rf hF_s11 (by decide)) hF_s16 (by decide)) hF_s17 (by decide)) e_s21 (zr (k := 56) (t2 := 105) hG ha rfl) (by decide)) e_s22 (zr (k := 56) (t2 := 105) hG ha rfl) (by decide)) e_s23 (zr (k := 56) (t2 := 105) hG ha rfl) (by decide)) (by omega))
            exact j_sub [1, 2, 3, 4, 0] [(0, .ref a), (1, .int (zI x1)), (2, .int (zI x2)), (3, .int (zI x3)), (4, .int (zI 0))] rfl (c71_10 (2147483648 * 4) 0 s9 (by omega) (by omega) hS_s9 zFr_rf (by omega))
          · skip
            refine j_aload_n hx 0 dX12_lot_50 rfl ?_
            refine g13_56 hx hG ha kf_RX12_121 dX12_lot_51 ?_
            refine j_iload hx 4 dX12_lot_54 rfl ?_
            refine j_iconst hx dX12_lot_56 ?_
            refine j_iast hx hG (zr (k := 56) (t2 := 105) hG ha rfl) (by decide) rfl (zlen hG (zr (k := 56) (t2 := 105) hG ha rfl) (n := 6) rfl rfl) (by omega) (by omega) (j := (v19).toNat) rfl dX12_lot_57 ?_
            obtain ⟨s24, e_s24⟩ : ∃ z, z = zU s5 (gP G a 56) (v19).toNat 0 := ⟨_, rfl⟩
            rw [← e_s24]
            have hS_s24 : zSK G s24 := by rw [e_s24]; exact zSK_A hS_s5 (zr (k := 56) (t2 := 105) hG ha rfl) rfl rfl rfl (by omega)
            refine j_iinc hx 4 [(4, .int (zI (v19 + 1))), (0, .ref a), (1, .int (zI x1)), (2, .int (zI x2)), (3, .int (zI x3))] dX12_lot_58 rfl (by omega) (by decide) rfl ?_
            refine j_goto hx 43 dX12_lot_61 rfl ?_
            exact j_sub [1, 2, 3, 4, 0] [(0, .ref a), (1, .int (zI x1)), (2, .int (zI x2)), (3, .int (zI x3)), (4, .int (zI (v19 + 1)))] rfl (ih_c43_4 (v19 + 1) s24 (by omega) (by omega) hS_s24 (zFr_u (zFr_t zFr_rf hF_s5 (by decide)) e_s24 (zr (k := 56) (t2 := 105) hG ha rfl) (by decide)))
      exact j_sub [1, 2, 3, 4, 0] [(0, .ref a), (1, .int (zI x1)), (2, .int (zI x2)), (3, .int (zI x3)), (4, .int (zI 0))] rfl (c43_4 (2147483648 * 4) 0 s1 (by omega) (by omega) hS_s1 zFr_rf)

set_option maxHeartbeats 4000000 in
set_option maxRecDepth 20000 in
theorem c_X12_film {E : zE} {l : Launch} (hst : l.stackTraces = false) (a : Nat) (x1 : Int) (x2 : Int) (x3 : Int) (x4 : Int) (x5 : Int) : Con E l yX12_film cX12_film 10 (some .int) { frames := 1, cells := 0, slots := 0, locals := 23 } (fun G s vs => vs = [.ref a, .int (zI x1), .int (zI x2), .int (zI x3), .int (zI x4), .int (zI x5)] ∧ zGK G ∧ zSK G s ∧ (gT G a = 13) ∧ ((-2147483648) ≤ x1 ∧ x1 ≤ 2147483647) ∧ ((-2147483648) ≤ x2 ∧ x2 ≤ 2147483647) ∧ ((-2147483648) ≤ x3 ∧ x3 ≤ 2147483647) ∧ ((-2147483648) ≤ x4 ∧ x4 ≤ 2147483647) ∧ ((-2147483648) ≤ x5 ∧ x5 ≤ 2147483647) ∧ (zS0m G s)) (fun G s _ => pI (fun r G2 s2 => G2 = G ∧ zSK G s2 ∧ zFr [13, 71] G s s2 ∧ (0 ≤ r ∧ r ≤ 10000) ∧ (((0 ≤ x1 ∧ x1 ≤ x2 ∧ x2 ≤ 99 ∧ 0 ≤ x3 ∧ x3 ≤ x4 ∧ x4 ≤ 99 ∧ 0 ≤ x5 ∧ x5 ≤ 2) → s2 a 0 = 0 ∧ ((x5 = 0 → r = zFE x1 x3 x4 (x2 + 1 - x1).toNat) ∧ (x5 = 1 → r = zFB x1 x3 x4 (x2 + 1 - x1).toNat) ∧ (x5 = 2 → r = (x2 - x1 + 1) * (x4 - x3 + 1)))) ∧ (¬ (0 ≤ x1 ∧ x1 ≤ x2 ∧ x2 ≤ 99 ∧ 0 ≤ x3 ∧ x3 ≤ x4 ∧ x4 ≤ 99 ∧ 0 ≤ x5 ∧ x5 ≤ 2) → s2 a 0 = 1)))) := by
  refine Con.mk hst (by decide) (fun G s vs h => by rw [h.1]; exact Nat.le_of_ble_eq_true rfl) ?_
  rintro X G s0 vs ⟨rfl, hG, hS0, ha, hx1, hx2, hx3, hx4, hx5, hF0⟩ rfl hx hq
  show JJ X E 10 G s0 0 0 [(0, .ref a), (1, .int (zI x1)), (2, .int (zI x2)), (3, .int (zI x3)), (4, .int (zI x4)), (5, .int (zI x5))] 0 []
  refine j_aload_n hx 0 dX12_film_0 rfl ?_
  refine j_iconst hx dX12_film_1 ?_
  refine p13_0 hx hG ha kf_RX12_3 dX12_film_2 ?_
  obtain ⟨s1, e_s1⟩ : ∃ z, z = zU s0 a 0 0 := ⟨_, rfl⟩
  rw [← e_s1]
  have hS_s1 : zSK G s1 := by rw [e_s1]; exact zSK_F hS0 ha rfl rfl rfl (by omega)
  refine j_aload_n hx 0 dX12_film_5 rfl ?_
  refine j_iload_n hx 1 dX12_film_6 rfl ?_
  refine j_iconst hx dX12_film_7 ?_
  refine j_iload_n hx 2 dX12_film_8 rfl ?_
  refine j_callS hx (c_X12_within hst x1 0 x2) lk_RX12_314 [.int (zI x1), .int (zI 0), .int (zI x2)] ⟨rfl, hG, hS_s1, (by omega), (by omega), (by omega)⟩ rfl rfl ⟨by decide, by decide⟩ ⟨by decide, by decide⟩ (k2 := 0) (n2 := 0) rfl rfl (Nat.le_of_ble_eq_true rfl) dX12_film_9 (kIP (fun v1 q2 => ?_))
  refine j_if_eq hx 52 dX12_film_12 rfl (by omega) (fun h3 => ?_) (fun h3 => ?_)
  · skip
    refine j_iconst hx dX12_film_52 ?_
    refine j_iconst hx dX12_film_53 ?_
    refine j_iconst hx dX12_film_54 ?_
    have g4 : s1 a 0 = 0 := (by rw [e_s1, zU_eq])
    refine j_callV hx hG (c_X12_may_f hst a 0 1 1) lk_RX12_240 ha (by decide) rfl rfl rfl rfl [.int (zI 0), .int (zI 1), .int (zI 1)] ⟨rfl, hG, hS_s1, ha, (by omega), (by omega), (by omega), (((by rw [e_s1, zU_eq]) : s1 a 0 = 0).trans (by omega))⟩ rfl rfl ⟨by decide, by decide⟩ ⟨by decide, by decide⟩ (k2 := 0) (n2 := 0) rfl rfl (Nat.le_of_ble_eq_true rfl) dX12_film_55 (kIM (fun v5 s2 hS_s2 hF_s2 q6 => ?_))
    refine j_if_ne hx 63 dX12_film_58 rfl (by omega) (fun h7 => absurd h7 (by omega)) (fun h7 => ?_)
    refine j_iconst hx dX12_film_61 ?_
    exact j_iret hx hq rfl (by decide) (by decide) dX12_film_62 ⟨0, rfl, rfl, hS_s2, (zFr_t (zFr_u zFr_rf e_s1 ha (by decide)) hF_s2 (by decide)), ⟨(by omega), by omega⟩⟩
  · skip
    refine j_iload_n hx 2 dX12_film_15 rfl ?_
    refine j_bipush hx dX12_film_16 rfl ?_
    refine j_icmp_gt hx 52 dX12_film_18 rfl (by omega) ⟨by decide, by decide⟩ (fun h8 => ?_) (fun h8 => ?_)
    · skip
      refine j_iconst hx dX12_film_52 ?_
      refine j_iconst hx dX12_film_53 ?_
      refine j_iconst hx dX12_film_54 ?_
      have g9 : s1 a 0 = 0 := (by rw [e_s1, zU_eq])
      refine j_callV hx hG (c_X12_may_f hst a 0 1 1) lk_RX12_240 ha (by decide) rfl rfl rfl rfl [.int (zI 0), .int (zI 1), .int (zI 1)] ⟨rfl, hG, hS_s1, ha, (by omega), (by omega), (by omega), (((by rw [e_s1, zU_eq]) : s1 a 0 = 0).trans (by omega))⟩ rfl rfl ⟨by decide, by decide⟩ ⟨by decide, by decide⟩ (k2 := 0) (n2 := 0) rfl rfl (Nat.le_of_ble_eq_true rfl) dX12_film_55 (kIM (fun v10 s3 hS_s3 hF_s3 q11 => ?_))
      refine j_if_ne hx 63 dX12_film_58 rfl (by omega) (fun h12 => absurd h12 (by omega)) (fun h12 => ?_)
      refine j_iconst hx dX12_film_61 ?_
      exact j_iret hx hq rfl (by decide) (by decide) dX12_film_62 ⟨0, rfl, rfl, hS_s3, (zFr_t (zFr_u zFr_rf e_s1 ha (by decide)) hF_s3 (by decide)), ⟨(by omega), by omega⟩⟩
    · skip
      refine j_iload_n hx 3 dX12_film_21 rfl ?_
      refine j_iconst hx dX12_film_22 ?_
      refine j_iload hx 4 dX12_film_23 rfl ?_
      refine j_callS hx (c_X12_within hst x3 0 x4) lk_RX12_314 [.int (zI x3), .int (zI 0), .int (zI x4)] ⟨rfl, hG, hS_s1, (by omega), (by omega), (by omega)⟩ rfl rfl ⟨by decide, by decide⟩ ⟨by decide, by decide⟩ (k2 := 0) (n2 := 0) rfl rfl (Nat.le_of_ble_eq_true rfl) dX12_film_25 (kIP (fun v13 q14 => ?_))
      refine j_if_eq hx 52 dX12_film_28 rfl (by omega) (fun h15 => ?_) (fun h15 => ?_)
      · skip
        refine j_iconst hx dX12_film_52 ?_
        refine j_iconst hx dX12_film_53 ?_
        refine j_iconst hx dX12_film_54 ?_
        have g16 : s1 a 0 = 0 := (by rw [e_s1, zU_eq])
        refine j_callV hx hG (c_X12_may_f hst a 0 1 1) lk_RX12_240 ha (by decide) rfl rfl rfl rfl [.int (zI 0), .int (zI 1), .int (zI 1)] ⟨rfl, hG, hS_s1, ha, (by omega), (by omega), (by omega), (((by rw [e_s1, zU_eq]) : s1 a 0 = 0).trans (by omega))⟩ rfl rfl ⟨by decide, by decide⟩ ⟨by decide, by decide⟩ (k2 := 0) (n2 := 0) rfl rfl (Nat.le_of_ble_eq_true rfl) dX12_film_55 (kIM (fun v17 s4 hS_s4 hF_s4 q18 => ?_))
        refine j_if_ne hx 63 dX12_film_58 rfl (by omega) (fun h19 => absurd h19 (by omega)) (fun h19 => ?_)
        refine j_iconst hx dX12_film_61 ?_
        exact j_iret hx hq rfl (by decide) (by decide) dX12_film_62 ⟨0, rfl, rfl, hS_s4, (zFr_t (zFr_u zFr_rf e_s1 ha (by decide)) hF_s4 (by decide)), ⟨(by omega), by omega⟩⟩
      · skip
        refine j_iload hx 4 dX12_film_31 rfl ?_
        refine j_bipush hx dX12_film_33 rfl ?_
        refine j_icmp_gt hx 52 dX12_film_35 rfl (by omega) ⟨by decide, by decide⟩ (fun h20 => ?_) (fun h20 => ?_)
        · skip
          refine j_iconst hx dX12_film_52 ?_
          refine j_iconst hx dX12_film_53 ?_
          refine j_iconst hx dX12_film_54 ?_
          have g21 : s1 a 0 = 0 := (by rw [e_s1, zU_eq])
          refine j_callV hx hG (c_X12_may_f hst a 0 1 1) lk_RX12_240 ha (by decide) rfl rfl rfl rfl [.int (zI 0), .int (zI 1), .int (zI 1)] ⟨rfl, hG, hS_s1, ha, (by omega), (by omega), (by omega), (((by rw [e_s1, zU_eq]) : s1 a 0 = 0).trans (by omega))⟩ rfl rfl ⟨by decide, by decide⟩ ⟨by decide, by decide⟩ (k2 := 0) (n2 := 0) rfl rfl (Nat.le_of_ble_eq_true rfl) dX12_film_55 (kIM (fun v22 s5 hS_s5 hF_s5 q23 => ?_))
          refine j_if_ne hx 63 dX12_film_58 rfl (by omega) (fun h24 => absurd h24 (by omega)) (fun h24 => ?_)
          refine j_iconst hx dX12_film_61 ?_
          exact j_iret hx hq rfl (by decide) (by decide) dX12_film_62 ⟨0, rfl, rfl, hS_s5, (zFr_t (zFr_u zFr_rf e_s1 ha (by decide)) hF_s5 (by decide)), ⟨(by omega), by omega⟩⟩
        · skip
          refine j_iload hx 5 dX12_film_38 rfl ?_
          refine j_iconst hx dX12_film_40 ?_
          refine j_iconst hx dX12_film_41 ?_
          refine j_callS hx (c_X12_within hst x5 0 2) lk_RX12_314 [.int (zI x5), .int (zI 0), .int (zI 2)] ⟨rfl, hG, hS_s1, (by omega), (by omega), (by omega)⟩ rfl rfl ⟨by decide, by decide⟩ ⟨by decide, by decide⟩ (k2 := 0) (n2 := 0) rfl rfl (Nat.le_of_ble_eq_true rfl) dX12_film_42 (kIP (fun v25 q26 => ?_))
          refine j_if_eq hx 52 dX12_film_45 rfl (by omega) (fun h27 => ?_) (fun h27 => ?_)
          · skip
            refine j_iconst hx dX12_film_52 ?_
            refine j_iconst hx dX12_film_53 ?_
            refine j_iconst hx dX12_film_54 ?_
            have g28 : s1 a 0 = 0 := (by rw [e_s1, zU_eq])
            refine j_callV hx hG (c_X12_may_f hst a 0 1 1) lk_RX12_240 ha (by decide) rfl rfl rfl rfl [.int (zI 0), .int (zI 1), .int (zI 1)] ⟨rfl, hG, hS_s1, ha, (by omega), (by omega), (by omega), (((by rw [e_s1, zU_eq]) : s1 a 0 = 0).trans (by omega))⟩ rfl rfl ⟨by decide, by decide⟩ ⟨by decide, by decide⟩ (k2 := 0) (n2 := 0) rfl rfl (Nat.le_of_ble_eq_true rfl) dX12_film_55 (kIM (fun v29 s6 hS_s6 hF_s6 q30 => ?_))
            refine j_if_ne hx 63 dX12_film_58 rfl (by omega) (fun h31 => absurd h31 (by omega)) (fun h31 => ?_)
            refine j_iconst hx dX12_film_61 ?_
            exact j_iret hx hq rfl (by decide) (by decide) dX12_film_62 ⟨0, rfl, rfl, hS_s6, (zFr_t (zFr_u zFr_rf e_s1 ha (by decide)) hF_s6 (by decide)), ⟨(by omega), by omega⟩⟩
          · skip
            refine j_iconst hx dX12_film_48 ?_
            refine j_goto hx 53 dX12_film_49 rfl ?_
            refine j_iconst hx dX12_film_53 ?_
            refine j_iconst hx dX12_film_54 ?_
            have g32 : s1 a 0 = 0 := (by rw [e_s1, zU_eq])
            refine j_callV hx hG (c_X12_may_t hst a 1 1 1) lk_RX12_240 ha (by decide) rfl rfl rfl rfl [.int (zI 1), .int (zI 1), .int (zI 1)] ⟨rfl, hG, hS_s1, ha, (by omega), (by omega), (by omega), (((by rw [e_s1, zU_eq]) : s1 a 0 = 0).trans (by omega))⟩ rfl rfl ⟨by decide, by decide⟩ ⟨by decide, by decide⟩ (k2 := 0) (n2 := 0) rfl rfl (Nat.le_of_ble_eq_true rfl) dX12_film_55 (kIP (fun v33 q34 => ?_))
            refine j_if_ne hx 63 dX12_film_58 rfl (by omega) (fun h35 => ?_) (fun h35 => absurd h35 (by omega))
            refine j_iconst hx dX12_film_63 ?_
            refine j_istore hx [(6, .int (zI 0)), (0, .ref a), (1, .int (zI x1)), (2, .int (zI x2)), (3, .int (zI x3)), (4, .int (zI x4)), (5, .int (zI x5))] dX12_film_64 (by decide) rfl ?_
            refine j_iconst hx dX12_film_66 ?_
            refine j_istore hx [(7, .int (zI 0)), (6, .int (zI 0)), (0, .ref a), (1, .int (zI x1)), (2, .int (zI x2)), (3, .int (zI x3)), (4, .int (zI x4)), (5, .int (zI x5))] dX12_film_67 (by decide) rfl ?_
            have z36 : zFE x1 x3 x4 (x1 - x1).toNat = 0 := by rw [show (x1 - x1).toNat = 0 by omega]; rfl
            have z37 : zFB x1 x3 x4 (x1 - x1).toNat = 0 := by rw [show (x1 - x1).toNat = 0 by omega]; rfl
            refine j_iload_n hx 3 dX12_film_69 rfl ?_
            refine j_istore hx [(8, .int (zI x1)), (7, .int (zI 0)), (6, .int (zI 0)), (0, .ref a), (1, .int (zI x1)), (2, .int (zI x2)), (3, .int (zI x3)), (4, .int (zI x4)), (5, .int (zI x5))] dX12_film_70 (by decide) rfl ?_
            have c72_7 : ∀ (m_c72_7 : Nat) (v38 : Int) (v39 : Int) (v40 : Int), 2147483648 - v40 < m_c72_7 → (0 ≤ v38 ∧ v38 ≤ 10000) → (0 ≤ v39 ∧ v39 ≤ 100) → (0 ≤ v40 ∧ v40 ≤ 100) → (v40 ≤ x2 + 1 ∧ x1 ≤ v40) → (v38 = zFE x1 x3 x4 (v40 - x1).toNat) → (v39 = zFB x1 x3 x4 (v40 - x1).toNat) → JJ X E 10 G s1 0 0 [(1, .int (zI x1)), (2, .int (zI x2)), (3, .int (zI x3)), (4, .int (zI x4)), (5, .int (zI x5)), (6, .int (zI v38)), (7, .int (zI v39)), (8, .int (zI v40))] 72 [] := by
              intro m_c72_7
              induction m_c72_7 with
              | zero => intro v38 v39 v40 hm_c72_7 fA8 fA9 fA10 fA11 fA12 fA13; exfalso; omega
              | succ m_c72_7 ih_c72_7 => 
                intro v38 v39 v40 hm_c72_7 fA8 fA9 fA10 fA11 fA12 fA13
                have z41 := zFE_b x1 x3 x4 (by omega) (by omega) (v40 - x1).toNat
                have z42 := zFB_b x1 x3 x4 (v40 - x1).toNat
                refine j_iload hx 7 dX12_film_72 rfl ?_
                refine j_iload_n hx 1 dX12_film_74 rfl ?_
                refine j_icmp_gt hx 134 dX12_film_75 rfl (by omega) (by omega) (fun h43 => ?_) (fun h43 => ?_)
                · skip
                  have z44 : zFE x1 x3 x4 (v40 - x1).toNat = zFE x1 x3 x4 (x2 + 1 - x1).toNat := by rw [show v40 = x2 + 1 by omega]
                  have z45 : zFB x1 x3 x4 (v40 - x1).toNat = zFB x1 x3 x4 (x2 + 1 - x1).toNat := by rw [show v40 = x2 + 1 by omega]
                  refine j_iload hx 4 dX12_film_134 rfl ?_
                  refine j_if_ne hx 144 dX12_film_136 rfl (by omega) (fun h46 => ?_) (fun h46 => ?_)
                  · skip
                    refine j_iload hx 4 dX12_film_144 rfl ?_
                    refine j_iconst hx dX12_film_146 ?_
                    refine j_icmp_ne hx 155 dX12_film_147 rfl (by omega) ⟨by decide, by decide⟩ (fun h47 => ?_) (fun h47 => ?_)
                    · skip
                      refine j_iload_n hx 1 dX12_film_155 rfl ?_
                      refine j_iload_n hx 0 dX12_film_156 rfl ?_
                      refine j_isub hx (r := x2 - x1) dX12_film_157 rfl ?_
                      refine j_iconst hx dX12_film_158 ?_
                      refine j_iadd hx (r := x2 - x1 + 1) dX12_film_159 (by omega) ?_
                      refine j_iload hx 3 dX12_film_160 rfl ?_
                      refine j_iload_n hx 2 dX12_film_162 rfl ?_
                      refine j_isub hx (r := x4 - x3) dX12_film_163 rfl ?_
                      refine j_iconst hx dX12_film_164 ?_
                      refine j_iadd hx (r := x4 - x3 + 1) dX12_film_165 (by omega) ?_
                      refine j_imul hx (r := ((x2 - x1 + 1) * (x4 - x3 + 1))) dX12_film_166 rfl ?_
                      have f48 : 0 ≤ ((x2 - x1 + 1) * (x4 - x3 + 1)) ∧ ((x2 - x1 + 1) * (x4 - x3 + 1)) ≤ 100 * 100 := zmulnn (by omega) (by omega)
                      exact j_iret hx hq rfl (by decide) (by decide) dX12_film_167 ⟨((x2 - x1 + 1) * (x4 - x3 + 1)), rfl, rfl, hS_s1, (zFr_u zFr_rf e_s1 ha (by decide)), ⟨(by omega), by omega⟩⟩
                    · skip
                      refine j_iload hx 6 dX12_film_150 rfl ?_
                      refine j_goto hx 167 dX12_film_152 rfl ?_
                      exact j_iret hx hq rfl (by decide) (by decide) dX12_film_167 ⟨v39, rfl, rfl, hS_s1, (zFr_u zFr_rf e_s1 ha (by decide)), ⟨(by omega), by omega⟩⟩
                  · skip
                    refine j_iload hx 5 dX12_film_139 rfl ?_
                    refine j_goto hx 167 dX12_film_141 rfl ?_
                    exact j_iret hx hq rfl (by decide) (by decide) dX12_film_167 ⟨v38, rfl, rfl, hS_s1, (zFr_u zFr_rf e_s1 ha (by decide)), ⟨(by omega), by omega⟩⟩
                · skip
                  refine j_iload_n hx 2 dX12_film_78 rfl ?_
                  refine j_istore hx [(9, .int (zI x3)), (1, .int (zI x1)), (2, .int (zI x2)), (3, .int (zI x3)), (4, .int (zI x4)), (5, .int (zI x5)), (6, .int (zI v38)), (7, .int (zI v39)), (8, .int (zI v40))] dX12_film_79 (by decide) rfl ?_
                  have c81_14 : ∀ (m_c81_14 : Nat) (v49 : Int) (v50 : Int) (v51 : Int), 2147483648 - v51 < m_c81_14 → (0 ≤ v49 ∧ v49 ≤ 10000) → (0 ≤ v50 ∧ v50 ≤ 100) → (0 ≤ v51 ∧ v51 ≤ 100) → (v40 ≤ x2 + 1 ∧ x1 ≤ v40) → (v49 = zFE x1 x3 x4 (v40 - x1).toNat + max 0 (v51 - max x3 (v40 + 1))) → (v50 = zFB x1 x3 x4 (v40 - x1).toNat + max 0 (min 1 (min (v51 - v40) (v40 - x3 + 1)))) → (v51 ≤ x4 + 1 ∧ x3 ≤ v51 ∧ v40 ≤ x2) → JJ X E 10 G s1 0 0 [(1, .int (zI x1)), (2, .int (zI x2)), (3, .int (zI x3)), (4, .int (zI x4)), (5, .int (zI x5)), (6, .int (zI v49)), (7, .int (zI v50)), (8, .int (zI v40)), (9, .int (zI v51))] 81 [] := by
                    intro m_c81_14
                    induction m_c81_14 with
                    | zero => intro v49 v50 v51 hm_c81_14 fA15 fA16 fA17 fA18 fA19 fA20 fA21; exfalso; omega
                    | succ m_c81_14 ih_c81_14 => 
                      intro v49 v50 v51 hm_c81_14 fA15 fA16 fA17 fA18 fA19 fA20 fA21
                      have z52 := zFE_b x1 x3 x4 (by omega) (by omega) (v40 - x1).toNat
                      have z53 := zFB_b x1 x3 x4 (v40 - x1).toNat
                      refine j_iload hx 8 dX12_film_81 rfl ?_
                      refine j_iload hx 3 dX12_film_83 rfl ?_
                      refine j_icmp_gt hx 128 dX12_film_85 rfl (by omega) (by omega) (fun h54 => ?_) (fun h54 => ?_)
                      · skip
                        have z55 := zFE_s x1 x3 x4 v40 (by omega)
                        have z56 := zFB_s x1 x3 x4 v40 (by omega)
                        have z57 := zFE_b x1 x3 x4 (by omega) (by omega) (v40 + 1 - x1).toNat
                        have z58 := zFB_b x1 x3 x4 (v40 + 1 - x1).toNat
                        refine j_iinc hx 7 [(8, .int (zI (v40 + 1))), (1, .int (zI x1)), (2, .int (zI x2)), (3, .int (zI x3)), (4, .int (zI x4)), (5, .int (zI x5)), (6, .int (zI v49)), (7, .int (zI v50)), (9, .int (zI v51))] dX12_film_128 rfl (by omega) (by decide) rfl ?_
                        refine j_goto hx 72 dX12_film_131 rfl ?_
                        exact j_sub [1, 2, 3, 4, 5, 6, 7, 0] [(1, .int (zI x1)), (2, .int (zI x2)), (3, .int (zI x3)), (4, .int (zI x4)), (5, .int (zI x5)), (6, .int (zI v49)), (7, .int (zI v50)), (8, .int (zI (v40 + 1)))] rfl (ih_c72_7 v49 v50 (v40 + 1) (by omega) (by omega) (by omega) (by omega) (by omega) (by omega) (by omega))
                      · skip
                        refine j_iload hx 5 dX12_film_88 rfl ?_
                        refine j_iload hx 7 dX12_film_90 rfl ?_
                        refine j_iload hx 8 dX12_film_92 rfl ?_
                        refine j_icmp_ge hx 101 dX12_film_94 rfl (by omega) (by omega) (fun h59 => ?_) (fun h59 => ?_)
                        · skip
                          refine j_iconst hx dX12_film_101 ?_
                          refine j_iadd hx (r := v49) dX12_film_102 (by omega) ?_
                          refine j_istore hx [(6, .int (zI v49)), (1, .int (zI x1)), (2, .int (zI x2)), (3, .int (zI x3)), (4, .int (zI x4)), (5, .int (zI x5)), (7, .int (zI v50)), (8, .int (zI v40)), (9, .int (zI v51))] dX12_film_103 (by decide) rfl ?_
                          refine j_iload hx 6 dX12_film_105 rfl ?_
                          refine j_iload hx 7 dX12_film_107 rfl ?_
                          refine j_iload hx 8 dX12_film_109 rfl ?_
                          refine j_icmp_ne hx 118 dX12_film_111 rfl (by omega) (by omega) (fun h60 => ?_) (fun h60 => ?_)
                          · skip
                            refine j_iconst hx dX12_film_118 ?_
                            refine j_iadd hx (r := v50) dX12_film_119 (by omega) ?_
                            refine j_istore hx [(7, .int (zI v50)), (6, .int (zI v49)), (1, .int (zI x1)), (2, .int (zI x2)), (3, .int (zI x3)), (4, .int (zI x4)), (5, .int (zI x5)), (8, .int (zI v40)), (9, .int (zI v51))] dX12_film_120 (by decide) rfl ?_
                            refine j_iinc hx 8 [(9, .int (zI (v51 + 1))), (7, .int (zI v50)), (6, .int (zI v49)), (1, .int (zI x1)), (2, .int (zI x2)), (3, .int (zI x3)), (4, .int (zI x4)), (5, .int (zI x5)), (8, .int (zI v40))] dX12_film_122 rfl (by omega) (by decide) rfl ?_
                            refine j_goto hx 81 dX12_film_125 rfl ?_
                            exact j_sub [3, 4, 5, 6, 7, 2, 1, 8, 0] [(1, .int (zI x1)), (2, .int (zI x2)), (3, .int (zI x3)), (4, .int (zI x4)), (5, .int (zI x5)), (6, .int (zI v49)), (7, .int (zI v50)), (8, .int (zI v40)), (9, .int (zI (v51 + 1)))] rfl (ih_c81_14 v49 v50 (v51 + 1) (by omega) (by omega) (by omega) (by omega) (by omega) (by omega) (by omega) (by omega))
                          · skip
                            refine j_iconst hx dX12_film_114 ?_
                            refine j_goto hx 119 dX12_film_115 rfl ?_
                            refine j_iadd hx (r := v50 + 1) dX12_film_119 rfl ?_
                            refine j_istore hx [(7, .int (zI (v50 + 1))), (6, .int (zI v49)), (1, .int (zI x1)), (2, .int (zI x2)), (3, .int (zI x3)), (4, .int (zI x4)), (5, .int (zI x5)), (8, .int (zI v40)), (9, .int (zI v51))] dX12_film_120 (by decide) rfl ?_
                            refine j_iinc hx 8 [(9, .int (zI (v51 + 1))), (7, .int (zI (v50 + 1))), (6, .int (zI v49)), (1, .int (zI x1)), (2, .int (zI x2)), (3, .int (zI x3)), (4, .int (zI x4)), (5, .int (zI x5)), (8, .int (zI v40))] dX12_film_122 rfl (by omega) (by decide) rfl ?_
                            refine j_goto hx 81 dX12_film_125 rfl ?_
                            exact j_sub [3, 4, 5, 6, 7, 2, 1, 8, 0] [(1, .int (zI x1)), (2, .int (zI x2)), (3, .int (zI x3)), (4, .int (zI x4)), (5, .int (zI x5)), (6, .int (zI v49)), (7, .int (zI (v50 + 1))), (8, .int (zI v40)), (9, .int (zI (v51 + 1)))] rfl (ih_c81_14 v49 (v50 + 1) (v51 + 1) (by omega) (by omega) (by omega) (by omega) (by omega) (by omega) (by omega) (by omega))
                        · skip
                          refine j_iconst hx dX12_film_97 ?_
                          refine j_goto hx 102 dX12_film_98 rfl ?_
                          refine j_iadd hx (r := v49 + 1) dX12_film_102 rfl ?_
                          refine j_istore hx [(6, .int (zI (v49 + 1))), (1, .int (zI x1)), (2, .int (zI x2)), (3, .int (zI x3)), (4, .int (zI x4)), (5, .int (zI x5)), (7, .int (zI v50)), (8, .int (zI v40)), (9, .int (zI v51))] dX12_film_103 (by decide) rfl ?_
                          refine j_iload hx 6 dX12_film_105 rfl ?_
                          refine j_iload hx 7 dX12_film_107 rfl ?_
                          refine j_iload hx 8 dX12_film_109 rfl ?_
                          refine j_icmp_ne hx 118 dX12_film_111 rfl (by omega) (by omega) (fun h61 => ?_) (fun h61 => ?_)
                          · skip
                            refine j_iconst hx dX12_film_118 ?_
                            refine j_iadd hx (r := v50) dX12_film_119 (by omega) ?_
                            refine j_istore hx [(7, .int (zI v50)), (6, .int (zI (v49 + 1))), (1, .int (zI x1)), (2, .int (zI x2)), (3, .int (zI x3)), (4, .int (zI x4)), (5, .int (zI x5)), (8, .int (zI v40)), (9, .int (zI v51))] dX12_film_120 (by decide) rfl ?_
                            refine j_iinc hx 8 [(9, .int (zI (v51 + 1))), (7, .int (zI v50)), (6, .int (zI (v49 + 1))), (1, .int (zI x1)), (2, .int (zI x2)), (3, .int (zI x3)), (4, .int (zI x4)), (5, .int (zI x5)), (8, .int (zI v40))] dX12_film_122 rfl (by omega) (by decide) rfl ?_
                            refine j_goto hx 81 dX12_film_125 rfl ?_
                            exact j_sub [3, 4, 5, 6, 7, 2, 1, 8, 0] [(1, .int (zI x1)), (2, .int (zI x2)), (3, .int (zI x3)), (4, .int (zI x4)), (5, .int (zI x5)), (6, .int (zI (v49 + 1))), (7, .int (zI v50)), (8, .int (zI v40)), (9, .int (zI (v51 + 1)))] rfl (ih_c81_14 (v49 + 1) v50 (v51 + 1) (by omega) (by omega) (by omega) (by omega) (by omega) (by omega) (by omega) (by omega))
                          · skip
                            refine j_iconst hx dX12_film_114 ?_
                            refine j_goto hx 119 dX12_film_115 rfl ?_
                            refine j_iadd hx (r := v50 + 1) dX12_film_119 rfl ?_
                            refine j_istore hx [(7, .int (zI (v50 + 1))), (6, .int (zI (v49 + 1))), (1, .int (zI x1)), (2, .int (zI x2)), (3, .int (zI x3)), (4, .int (zI x4)), (5, .int (zI x5)), (8, .int (zI v40)), (9, .int (zI v51))] dX12_film_120 (by decide) rfl ?_
                            refine j_iinc hx 8 [(9, .int (zI (v51 + 1))), (7, .int (zI (v50 + 1))), (6, .int (zI (v49 + 1))), (1, .int (zI x1)), (2, .int (zI x2)), (3, .int (zI x3)), (4, .int (zI x4)), (5, .int (zI x5)), (8, .int (zI v40))] dX12_film_122 rfl (by omega) (by decide) rfl ?_
                            refine j_goto hx 81 dX12_film_125 rfl ?_
                            exact j_sub [3, 4, 5, 6, 7, 2, 1, 8, 0] [(1, .int (zI x1)), (2, .int (zI x2)), (3, .int (zI x3)), (4, .int (zI x4)), (5, .int (zI x5)), (6, .int (zI (v49 + 1))), (7, .int (zI (v50 + 1))), (8, .int (zI v40)), (9, .int (zI (v51 + 1)))] rfl (ih_c81_14 (v49 + 1) (v50 + 1) (v51 + 1) (by omega) (by omega) (by omega) (by omega) (by omega) (by omega) (by omega) (by omega))
                  exact j_sub [1, 2, 3, 4, 5, 6, 7, 8, 0] [(1, .int (zI x1)), (2, .int (zI x2)), (3, .int (zI x3)), (4, .int (zI x4)), (5, .int (zI x5)), (6, .int (zI v38)), (7, .int (zI v39)), (8, .int (zI v40)), (9, .int (zI x3))] rfl (c81_14 (2147483648 * 4) v38 v39 x3 (by omega) (by omega) (by omega) (by omega) (by omega) (by omega) (by omega) (by omega))
            exact j_sub [4, 5, 6, 7, 8, 2, 1, 0] [(1, .int (zI x1)), (2, .int (zI x2)), (3, .int (zI x3)), (4, .int (zI x4)), (5, .int (zI x5)), (6, .int (zI 0)), (7, .int (zI 0)), (8, .int (zI x1))] rfl (c72_7 (2147483648 * 4) 0 0 x1 (by omega) (by omega) (by omega) (by omega) (by omega) (by omega) (by omega))

set_option maxHeartbeats 4000000 in
set_option maxRecDepth 20000 in
theorem c_X12_laws {E : zE} {l : Launch} (hst : l.stackTraces = false) (a : Nat) (x1 : Int) (x2 : Int) : Con E l yX12_laws cX12_laws 3 (some .int) { frames := 4, cells := 0, slots := 0, locals := 87 } (fun G s vs => vs = [.ref a, .int (zI x1), .int (zI x2)] ∧ zGK G ∧ zSK G s ∧ (gT G a = 13) ∧ ((-2147483648) ≤ x1 ∧ x1 ≤ 2147483647) ∧ ((-2147483648) ≤ x2 ∧ x2 ≤ 2147483647) ∧ (zS0m G s)) (fun G s _ => pI (fun r G2 s2 => G2 = G ∧ zSK G s2 ∧ zFr [13, 71, 84, 87, 99, 100, 101, 102, 103] G s s2 ∧ ((-1) ≤ r ∧ r ≤ 0) ∧ (((0 ≤ x1 ∧ x1 ≤ 8 ∧ 0 ≤ x2 ∧ x2 ≤ 1) → s2 a 0 = 0 ∧ ((x2 = 0 → r = -1) ∧ (x2 ≠ 0 → r = 0))) ∧ (¬ (0 ≤ x1 ∧ x1 ≤ 8 ∧ 0 ≤ x2 ∧ x2 ≤ 1) → s2 a 0 = 1)))) := by
  refine Con.mk hst (by decide) (fun G s vs h => by rw [h.1]; exact Nat.le_of_ble_eq_true rfl) ?_
  rintro X G s0 vs ⟨rfl, hG, hS0, ha, hx1, hx2, hF0⟩ rfl hx hq
  show JJ X E 3 G s0 0 0 [(0, .ref a), (1, .int (zI x1)), (2, .int (zI x2))] 0 []
  refine j_aload_n hx 0 dX12_laws_0 rfl ?_
  refine j_iconst hx dX12_laws_1 ?_
  refine p13_0 hx hG ha kf_RX12_3 dX12_laws_2 ?_
  obtain ⟨s1, e_s1⟩ : ∃ z, z = zU s0 a 0 0 := ⟨_, rfl⟩
  rw [← e_s1]
  have hS_s1 : zSK G s1 := by rw [e_s1]; exact zSK_F hS0 ha rfl rfl rfl (by omega)
  refine j_aload_n hx 0 dX12_laws_5 rfl ?_
  refine j_iload_n hx 1 dX12_laws_6 rfl ?_
  refine j_iconst hx dX12_laws_7 ?_
  refine j_bipush hx dX12_laws_8 rfl ?_
  refine j_callS hx (c_X12_within hst x1 0 8) lk_RX12_314 [.int (zI x1), .int (zI 0), .int (zI 8)] ⟨rfl, hG, hS_s1, (by omega), (by omega), (by omega)⟩ rfl rfl ⟨by decide, by decide⟩ ⟨by decide, by decide⟩ (k2 := 0) (n2 := 0) rfl rfl (Nat.le_of_ble_eq_true rfl) dX12_laws_10 (kIP (fun v1 q2 => ?_))
  refine j_if_eq hx 29 dX12_laws_13 rfl (by omega) (fun h3 => ?_) (fun h3 => ?_)
  · skip
    refine j_iconst hx dX12_laws_29 ?_
    refine j_iconst hx dX12_laws_30 ?_
    refine j_iconst hx dX12_laws_31 ?_
    have g4 : s1 a 0 = 0 := (by rw [e_s1, zU_eq])
    refine j_callV hx hG (c_X12_may_f hst a 0 1 1) lk_RX12_240 ha (by decide) rfl rfl rfl rfl [.int (zI 0), .int (zI 1), .int (zI 1)] ⟨rfl, hG, hS_s1, ha, (by omega), (by omega), (by omega), (((by rw [e_s1, zU_eq]) : s1 a 0 = 0).trans (by omega))⟩ rfl rfl ⟨by decide, by decide⟩ ⟨by decide, by decide⟩ (k2 := 0) (n2 := 0) rfl rfl (Nat.le_of_ble_eq_true rfl) dX12_laws_32 (kIM (fun v5 s2 hS_s2 hF_s2 q6 => ?_))
    refine j_if_ne hx 40 dX12_laws_35 rfl (by omega) (fun h7 => absurd h7 (by omega)) (fun h7 => ?_)
    refine j_iconst hx dX12_laws_38 ?_
    exact j_iret hx hq rfl (by decide) (by decide) dX12_laws_39 ⟨0, rfl, rfl, hS_s2, (zFr_t (zFr_u zFr_rf e_s1 ha (by decide)) hF_s2 (by decide)), ⟨(by omega), by omega⟩⟩
  · skip
    refine j_iload_n hx 2 dX12_laws_16 rfl ?_
    refine j_iconst hx dX12_laws_17 ?_
    refine j_iconst hx dX12_laws_18 ?_
    refine j_callS hx (c_X12_within hst x2 0 1) lk_RX12_314 [.int (zI x2), .int (zI 0), .int (zI 1)] ⟨rfl, hG, hS_s1, (by omega), (by omega), (by omega)⟩ rfl rfl ⟨by decide, by decide⟩ ⟨by decide, by decide⟩ (k2 := 0) (n2 := 0) rfl rfl (Nat.le_of_ble_eq_true rfl) dX12_laws_19 (kIP (fun v8 q9 => ?_))
    refine j_if_eq hx 29 dX12_laws_22 rfl (by omega) (fun h10 => ?_) (fun h10 => ?_)
    · skip
      refine j_iconst hx dX12_laws_29 ?_
      refine j_iconst hx dX12_laws_30 ?_
      refine j_iconst hx dX12_laws_31 ?_
      have g11 : s1 a 0 = 0 := (by rw [e_s1, zU_eq])
      refine j_callV hx hG (c_X12_may_f hst a 0 1 1) lk_RX12_240 ha (by decide) rfl rfl rfl rfl [.int (zI 0), .int (zI 1), .int (zI 1)] ⟨rfl, hG, hS_s1, ha, (by omega), (by omega), (by omega), (((by rw [e_s1, zU_eq]) : s1 a 0 = 0).trans (by omega))⟩ rfl rfl ⟨by decide, by decide⟩ ⟨by decide, by decide⟩ (k2 := 0) (n2 := 0) rfl rfl (Nat.le_of_ble_eq_true rfl) dX12_laws_32 (kIM (fun v12 s3 hS_s3 hF_s3 q13 => ?_))
      refine j_if_ne hx 40 dX12_laws_35 rfl (by omega) (fun h14 => absurd h14 (by omega)) (fun h14 => ?_)
      refine j_iconst hx dX12_laws_38 ?_
      exact j_iret hx hq rfl (by decide) (by decide) dX12_laws_39 ⟨0, rfl, rfl, hS_s3, (zFr_t (zFr_u zFr_rf e_s1 ha (by decide)) hF_s3 (by decide)), ⟨(by omega), by omega⟩⟩
    · skip
      refine j_iconst hx dX12_laws_25 ?_
      refine j_goto hx 30 dX12_laws_26 rfl ?_
      refine j_iconst hx dX12_laws_30 ?_
      refine j_iconst hx dX12_laws_31 ?_
      have g15 : s1 a 0 = 0 := (by rw [e_s1, zU_eq])
      refine j_callV hx hG (c_X12_may_t hst a 1 1 1) lk_RX12_240 ha (by decide) rfl rfl rfl rfl [.int (zI 1), .int (zI 1), .int (zI 1)] ⟨rfl, hG, hS_s1, ha, (by omega), (by omega), (by omega), (((by rw [e_s1, zU_eq]) : s1 a 0 = 0).trans (by omega))⟩ rfl rfl ⟨by decide, by decide⟩ ⟨by decide, by decide⟩ (k2 := 0) (n2 := 0) rfl rfl (Nat.le_of_ble_eq_true rfl) dX12_laws_32 (kIP (fun v16 q17 => ?_))
      refine j_if_ne hx 40 dX12_laws_35 rfl (by omega) (fun h18 => ?_) (fun h18 => absurd h18 (by omega))
      refine j_aload_n hx 0 dX12_laws_40 rfl ?_
      refine j_callV hx hG (c_X12_keeps hst a) lk_RX12_444 ha (by decide) rfl rfl rfl rfl [] ⟨rfl, hG, hS_s1, ha⟩ rfl rfl ⟨by decide, by decide⟩ ⟨by decide, by decide⟩ (k2 := 0) (n2 := 0) rfl rfl (Nat.le_of_ble_eq_true rfl) dX12_laws_41 (kVM (fun s4 hS_s4 hF_s4 q20 => ?_))
      refine j_aload_n hx 0 dX12_laws_44 rfl ?_
      refine g13_27 hx hG ha kf_RX12_56 dX12_laws_45 ?_
      refine j_sipush hx dX12_laws_48 rfl ?_
      refine j_iload_n hx 1 dX12_laws_51 rfl ?_
      refine j_iconst hx dX12_laws_52 ?_
      refine j_idiv hx dX12_laws_53 (by omega) ⟨by decide, by decide⟩ (by decide) (fun v21 f22 f23 f24 => ?_)
      refine j_iast hx hG (zr (k := 27) (t2 := 84) hG ha rfl) (by decide) rfl (zlen hG (zr (k := 27) (t2 := 84) hG ha rfl) (n := 515) rfl rfl) (by omega) (by omega) (j := 491) rfl dX12_laws_54 ?_
      obtain ⟨s5, e_s5⟩ : ∃ z, z = zU s4 (gP G a 27) 491 v21 := ⟨_, rfl⟩
      rw [← e_s5]
      have hS_s5 : zSK G s5 := by rw [e_s5]; exact zSK_A hS_s4 (zr (k := 27) (t2 := 84) hG ha rfl) rfl rfl rfl (by omega)
      refine j_aload_n hx 0 dX12_laws_55 rfl ?_
      refine g13_27 hx hG ha kf_RX12_56 dX12_laws_56 ?_
      refine j_sipush hx dX12_laws_59 rfl ?_
      refine j_iload_n hx 1 dX12_laws_62 rfl ?_
      refine j_iconst hx dX12_laws_63 ?_
      refine j_irem hx dX12_laws_64 (by omega) ⟨by decide, by decide⟩ (by decide) (fun v27 f28 f29 f30 f31 => ?_)
      refine j_iast hx hG (zr (k := 27) (t2 := 84) hG ha rfl) (by decide) rfl (zlen hG (zr (k := 27) (t2 := 84) hG ha rfl) (n := 515) rfl rfl) (by omega) (by omega) (j := 492) rfl dX12_laws_65 ?_
      obtain ⟨s6, e_s6⟩ : ∃ z, z = zU s5 (gP G a 27) 492 v27 := ⟨_, rfl⟩
      rw [← e_s6]
      have hS_s6 : zSK G s6 := by rw [e_s6]; exact zSK_A hS_s5 (zr (k := 27) (t2 := 84) hG ha rfl) rfl rfl rfl (by omega)
      refine j_aload_n hx 0 dX12_laws_66 rfl ?_
      have g33 : s6 a 0 = 0 := (by rw [e_s6, zU_at (Or.inl (zne (zr (k := 27) (t2 := 84) hG ha rfl) ha (by decide))), e_s5, zU_at (Or.inl (zne (zr (k := 27) (t2 := 84) hG ha rfl) ha (by decide))), (zFr_g hF_s4 ha (by decide)), e_s1, zU_eq])
      refine j_callV hx hG (c_X12_findEnds hst a) lk_RX12_447 ha (by decide) rfl rfl rfl rfl [] ⟨rfl, hG, hS_s6, ha⟩ rfl rfl ⟨by decide, by decide⟩ ⟨by decide, by decide⟩ (k2 := 0) (n2 := 0) rfl rfl (Nat.le_of_ble_eq_true rfl) dX12_laws_67 (kVM (fun s7 hS_s7 hF_s7 q35 => ?_))
      refine j_aload_n hx 0 dX12_laws_70 rfl ?_
      refine j_callV hx hG (c_X12_back hst a) lk_RX12_450 ha (by decide) rfl rfl rfl rfl [] ⟨rfl, hG, hS_s7, ha⟩ rfl rfl ⟨by decide, by decide⟩ ⟨by decide, by decide⟩ (k2 := 0) (n2 := 0) rfl rfl (Nat.le_of_ble_eq_true rfl) dX12_laws_71 (kVM (fun s8 hS_s8 hF_s8 q37 => ?_))
      refine j_iload_n hx 2 dX12_laws_74 rfl ?_
      refine j_if_ne hx 85 dX12_laws_75 rfl (by omega) (fun h38 => ?_) (fun h38 => ?_)
      · skip
        refine j_aload_n hx 0 dX12_laws_85 rfl ?_
        refine g13_52 hx hG ha kf_RX12_429 (v := (s7 a 52)) (by rw [(zFr_g hF_s8 ha (by decide))]) dX12_laws_86 ?_
        have g39 : s8 a 0 = s7 a 0 := (by rw [(zFr_g hF_s8 ha (by decide))])
        have f40 := zf hS_s7 ha (k := 0) rfl
        exact j_iret hx hq rfl (by decide) (by decide) dX12_laws_89 ⟨(s7 a 52), rfl, rfl, hS_s8, (zFr_t (zFr_t (zFr_u (zFr_u (zFr_t (zFr_u zFr_rf e_s1 ha (by decide)) hF_s4 (by decide)) e_s5 (zr (k := 27) (t2 := 84) hG ha rfl) (by decide)) e_s6 (zr (k := 27) (t2 := 84) hG ha rfl) (by decide)) hF_s7 (by decide)) hF_s8 (by decide)), ⟨(by omega), by omega⟩⟩
      · skip
        refine j_aload_n hx 0 dX12_laws_78 rfl ?_
        refine g13_54 hx hG ha kf_RX12_441 (v := (s7 a 54)) (by rw [(zFr_g hF_s8 ha (by decide))]) dX12_laws_79 ?_
        refine j_goto hx 89 dX12_laws_82 rfl ?_
        have g41 : s8 a 0 = s7 a 0 := (by rw [(zFr_g hF_s8 ha (by decide))])
        have f42 := zf hS_s7 ha (k := 0) rfl
        exact j_iret hx hq rfl (by decide) (by decide) dX12_laws_89 ⟨(s7 a 54), rfl, rfl, hS_s8, (zFr_t (zFr_t (zFr_u (zFr_u (zFr_t (zFr_u zFr_rf e_s1 ha (by decide)) hF_s4 (by decide)) e_s5 (zr (k := 27) (t2 := 84) hG ha rfl) (by decide)) e_s6 (zr (k := 27) (t2 := 84) hG ha rfl) (by decide)) hF_s7 (by decide)) hF_s8 (by decide)), ⟨(by omega), by omega⟩⟩

set_option maxHeartbeats 4000000 in
set_option maxRecDepth 20000 in
theorem c_X12_right {E : zE} {l : Launch} (hst : l.stackTraces = false) (a : Nat) : Con E l yX12_right cX12_right 2 (some .int) { frames := 0, cells := 0, slots := 0, locals := 0 } (fun G s vs => vs = [.ref a] ∧ zGK G ∧ zSK G s ∧ (gT G a = 13) ∧ (zS0m G s)) (fun G s _ => pI (fun r G2 s2 => G2 = G ∧ zSK G s2 ∧ zFr [13] G s s2 ∧ (0 ≤ r ∧ r ≤ 0) ∧ s2 a 0 = 0)) := by
  refine Con.mk hst (by decide) (fun G s vs h => by rw [h.1]; exact Nat.le_of_ble_eq_true rfl) ?_
  rintro X G s0 vs ⟨rfl, hG, hS0, ha, hF0⟩ rfl hx hq
  show JJ X E 2 G s0 0 0 [(0, .ref a)] 0 []
  refine j_aload_n hx 0 dX12_right_0 rfl ?_
  refine j_iconst hx dX12_right_1 ?_
  refine p13_0 hx hG ha kf_RX12_3 dX12_right_2 ?_
  obtain ⟨s1, e_s1⟩ : ∃ z, z = zU s0 a 0 0 := ⟨_, rfl⟩
  rw [← e_s1]
  have hS_s1 : zSK G s1 := by rw [e_s1]; exact zSK_F hS0 ha rfl rfl rfl (by omega)
  refine j_iconst hx dX12_right_5 ?_
  refine j_istore_n hx [(1, .int (zI 0)), (0, .ref a)] dX12_right_6 (by decide) rfl ?_
  refine j_iload_n hx 0 dX12_right_7 rfl ?_
  refine j_aload_n hx 1 dX12_right_8 rfl ?_
  have f1 := z0fm hF0 ha (by decide) (k := 41) rfl
  refine g13_41 hx hG ha kf_RX12_198 (v := (s0 a 41)) (by rw [e_s1, zU_at (Or.inr (by decide))]) dX12_right_9 ?_
  refine j_icmp_ge hx 66 dX12_right_12 rfl ⟨by decide, by decide⟩ (by omega) (fun h2 => ?_) (fun h2 => absurd h2 (by omega))
  refine j_iload_n hx 0 dX12_right_66 rfl ?_
  have g3 : s1 a 0 = 0 := (by rw [e_s1, zU_eq])
  exact j_iret hx hq rfl (by decide) (by decide) dX12_right_67 ⟨0, rfl, rfl, hS_s1, (zFr_u zFr_rf e_s1 ha (by decide)), ⟨(by omega), by omega⟩⟩

set_option maxHeartbeats 4000000 in
set_option maxRecDepth 20000 in
theorem c_X12_entry {E : zE} {l : Launch} (hst : l.stackTraces = false) (a : Nat) (x1 : Int) (x2 : Int) : Con E l yX12_entry cX12_entry 3 (some .int) { frames := 1, cells := 0, slots := 0, locals := 23 } (fun G s vs => vs = [.ref a, .int (zI x1), .int (zI x2)] ∧ zGK G ∧ zSK G s ∧ (gT G a = 13) ∧ ((-2147483648) ≤ x1 ∧ x1 ≤ 2147483647) ∧ ((-2147483648) ≤ x2 ∧ x2 ≤ 2147483647) ∧ (zS0m G s)) (fun G s _ => pI (fun r G2 s2 => G2 = G ∧ zSK G s2 ∧ zFr [13, 71] G s s2 ∧ ((-1) ≤ r ∧ r ≤ 0) ∧ (((0 ≤ x2 ∧ x2 ≤ 1) → s2 a 0 = 0 ∧ (r = -1)) ∧ (¬ (0 ≤ x2 ∧ x2 ≤ 1) → s2 a 0 = 1)))) := by
  refine Con.mk hst (by decide) (fun G s vs h => by rw [h.1]; exact Nat.le_of_ble_eq_true rfl) ?_
  rintro X G s0 vs ⟨rfl, hG, hS0, ha, hx1, hx2, hF0⟩ rfl hx hq
  show JJ X E 3 G s0 0 0 [(0, .ref a), (1, .int (zI x1)), (2, .int (zI x2))] 0 []
  refine j_aload_n hx 0 dX12_entry_0 rfl ?_
  refine j_iconst hx dX12_entry_1 ?_
  refine p13_0 hx hG ha kf_RX12_3 dX12_entry_2 ?_
  obtain ⟨s1, e_s1⟩ : ∃ z, z = zU s0 a 0 0 := ⟨_, rfl⟩
  rw [← e_s1]
  have hS_s1 : zSK G s1 := by rw [e_s1]; exact zSK_F hS0 ha rfl rfl rfl (by omega)
  refine j_aload_n hx 0 dX12_entry_5 rfl ?_
  refine j_iload_n hx 2 dX12_entry_6 rfl ?_
  refine j_iconst hx dX12_entry_7 ?_
  refine j_iconst hx dX12_entry_8 ?_
  refine j_callS hx (c_X12_within hst x2 0 1) lk_RX12_314 [.int (zI x2), .int (zI 0), .int (zI 1)] ⟨rfl, hG, hS_s1, (by omega), (by omega), (by omega)⟩ rfl rfl ⟨by decide, by decide⟩ ⟨by decide, by decide⟩ (k2 := 0) (n2 := 0) rfl rfl (Nat.le_of_ble_eq_true rfl) dX12_entry_9 (kIP (fun v1 q2 => ?_))
  refine j_iconst hx dX12_entry_12 ?_
  refine j_iconst hx dX12_entry_13 ?_
  rcases (show v1 = 0 ∨ v1 = 1 by omega) with rfl | rfl
  · skip
    have g4 : s1 a 0 = 0 := (by rw [e_s1, zU_eq])
    refine j_callV hx hG (c_X12_may_f hst a 0 1 1) lk_RX12_240 ha (by decide) rfl rfl rfl rfl [.int (zI 0), .int (zI 1), .int (zI 1)] ⟨rfl, hG, hS_s1, ha, (by omega), (by omega), (by omega), (((by rw [e_s1, zU_eq]) : s1 a 0 = 0).trans (by omega))⟩ rfl rfl ⟨by decide, by decide⟩ ⟨by decide, by decide⟩ (k2 := 0) (n2 := 0) rfl rfl (Nat.le_of_ble_eq_true rfl) dX12_entry_14 (kIM (fun v5 s2 hS_s2 hF_s2 q6 => ?_))
    refine j_if_ne hx 22 dX12_entry_17 rfl (by omega) (fun h7 => absurd h7 (by omega)) (fun h7 => ?_)
    refine j_iconst hx dX12_entry_20 ?_
    exact j_iret hx hq rfl (by decide) (by decide) dX12_entry_21 ⟨0, rfl, rfl, hS_s2, (zFr_t (zFr_u zFr_rf e_s1 ha (by decide)) hF_s2 (by decide)), ⟨(by omega), by omega⟩⟩
  · skip
    have g8 : s1 a 0 = 0 := (by rw [e_s1, zU_eq])
    refine j_callV hx hG (c_X12_may_t hst a 1 1 1) lk_RX12_240 ha (by decide) rfl rfl rfl rfl [.int (zI 1), .int (zI 1), .int (zI 1)] ⟨rfl, hG, hS_s1, ha, (by omega), (by omega), (by omega), (((by rw [e_s1, zU_eq]) : s1 a 0 = 0).trans (by omega))⟩ rfl rfl ⟨by decide, by decide⟩ ⟨by decide, by decide⟩ (k2 := 0) (n2 := 0) rfl rfl (Nat.le_of_ble_eq_true rfl) dX12_entry_14 (kIP (fun v9 q10 => ?_))
    refine j_if_ne hx 22 dX12_entry_17 rfl (by omega) (fun h11 => ?_) (fun h11 => absurd h11 (by omega))
    refine j_iload_n hx 1 dX12_entry_22 rfl ?_
    refine j_iconst hx dX12_entry_23 ?_
    refine j_aload_n hx 0 dX12_entry_24 rfl ?_
    have f12 := z0fm hF0 ha (by decide) (k := 41) rfl
    refine g13_41 hx hG ha kf_RX12_198 (v := (s0 a 41)) (by rw [e_s1, zU_at (Or.inr (by decide))]) dX12_entry_25 ?_
    refine j_iconst hx dX12_entry_28 ?_
    refine j_isub hx (r := (s0 a 41) - 1) dX12_entry_29 (by omega) ?_
    refine j_callS hx (c_X12_within hst x1 0 ((s0 a 41) - 1)) lk_RX12_314 [.int (zI x1), .int (zI 0), .int (zI ((s0 a 41) - 1))] ⟨rfl, hG, hS_s1, (by omega), (by omega), (by omega)⟩ rfl rfl ⟨by decide, by decide⟩ ⟨by decide, by decide⟩ (k2 := 0) (n2 := 0) rfl rfl (Nat.le_of_ble_eq_true rfl) dX12_entry_30 (kIP (fun v13 q14 => ?_))
    refine j_if_eq hx 49 dX12_entry_33 rfl (by omega) (fun h15 => ?_) (fun h15 => ?_)
    · skip
      refine j_iconst hx dX12_entry_49 ?_
      exact j_iret hx hq rfl (by decide) (by decide) dX12_entry_50 ⟨(-1), rfl, rfl, hS_s1, (zFr_u zFr_rf e_s1 ha (by decide)), ⟨(by omega), by omega⟩⟩
    · skip
      refine j_aload_n hx 0 dX12_entry_36 rfl ?_
      refine g13_40 hx hG ha kf_RX12_92 dX12_entry_37 ?_
      refine j_iconst hx dX12_entry_40 ?_
      refine j_iload_n hx 1 dX12_entry_41 rfl ?_
      refine j_imul hx (r := 2 * x1) dX12_entry_42 rfl ?_
      refine j_iload_n hx 2 dX12_entry_43 rfl ?_
      refine j_iadd hx (r := 2 * x1 + x2) dX12_entry_44 (by omega) ?_
      have f16 := z0am (j := (2 * x1 + x2).toNat) hF0 (zr (k := 40) (t2 := 97) hG ha rfl) (by decide) rfl (zlen hG (zr (k := 40) (t2 := 97) hG ha rfl) (n := 24) rfl rfl) (show 0 ≤ 2 * x1 + x2 by omega) (by omega) rfl
      refine j_iald hx hG (zr (k := 40) (t2 := 97) hG ha rfl) (by decide) rfl (zlen hG (zr (k := 40) (t2 := 97) hG ha rfl) (n := 24) rfl rfl) (by omega) (by omega) (j := (2 * x1 + x2).toNat) rfl (v := (s0 (gP G a 40) (2 * x1 + x2).toNat)) (by rw [e_s1, zU_at (Or.inl (zne ha (zr (k := 40) (t2 := 97) hG ha rfl) (by decide)))]) dX12_entry_45 ?_
      refine j_goto hx 50 dX12_entry_46 rfl ?_
      exact j_iret hx hq rfl (by decide) (by decide) dX12_entry_50 ⟨(s0 (gP G a 40) (2 * x1 + x2).toNat), rfl, rfl, hS_s1, (zFr_u zFr_rf e_s1 ha (by decide)), ⟨(by omega), by omega⟩⟩

set_option maxHeartbeats 4000000 in
set_option maxRecDepth 20000 in
theorem c_X12_keepsRow_84 {E : zE} {l : Launch} (hst : l.stackTraces = false) (a : Nat) (x1 : Int) (b2 : Nat) (x3 : Int) (x4 : Int) : Con E l yX12_keepsRow cX12_keepsRow 6 (some .int) { frames := 0, cells := 0, slots := 0, locals := 0 } (fun G s vs => vs = [.ref a, .int (zI x1), .ref b2, .int (zI x3), .int (zI x4)] ∧ zGK G ∧ zSK G s ∧ (gT G a = 13) ∧ (0 ≤ x1 ∧ x1 ≤ 39663) ∧ (gT G b2 = 84) ∧ (0 ≤ x3 ∧ x3 ≤ 515) ∧ (1 ≤ x4 ∧ x4 ≤ 1) ∧ (x1 + x3 ≤ 39663)) (fun G s _ => pI (fun r G2 s2 => G2 = G ∧ zSK G s2 ∧ zFr [106] G s s2 ∧ (0 ≤ r ∧ r ≤ 39663) ∧ r = x1 + x3)) := by
  refine Con.mk hst (by decide) (fun G s vs h => by rw [h.1]; exact Nat.le_of_ble_eq_true rfl) ?_
  rintro X G s0 vs ⟨rfl, hG, hS0, ha, hx1, hb2, hx3, hx4, e0⟩ rfl hx hq
  show JJ X E 6 G s0 0 0 [(0, .ref a), (1, .int (zI x1)), (2, .ref b2), (3, .int (zI x3)), (4, .int (zI x4))] 0 []
  refine j_iconst hx dX12_keepsRow_0 ?_
  refine j_istore hx [(5, .int (zI 0)), (0, .ref a), (1, .int (zI x1)), (2, .ref b2), (3, .int (zI x3)), (4, .int (zI x4))] dX12_keepsRow_1 (by decide) rfl ?_
  have c3_1 : ∀ (m_c3_1 : Nat) (v1 : Int) (s2 : zS), 2147483648 - v1 < m_c3_1 → (0 ≤ v1 ∧ v1 ≤ 515) → (zSK G s2) → (zFr [106] G s0 s2) → JJ X E 6 G s2 0 0 [(0, .ref a), (1, .int (zI x1)), (2, .ref b2), (3, .int (zI x3)), (4, .int (zI x4)), (5, .int (zI v1))] 3 [] := by
    intro m_c3_1
    induction m_c3_1 with
    | zero => intro v1 s2 hm_c3_1 fA3 hS_s2 hF_s2; exfalso; omega
    | succ m_c3_1 ih_c3_1 => 
      intro v1 s2 hm_c3_1 fA3 hS_s2 hF_s2
      refine j_iload hx 5 dX12_keepsRow_3 rfl ?_
      refine j_iload_n hx 3 dX12_keepsRow_5 rfl ?_
      refine j_icmp_ge hx 49 dX12_keepsRow_6 rfl (by omega) (by omega) (fun h2 => ?_) (fun h2 => ?_)
      · skip
        refine j_iload_n hx 1 dX12_keepsRow_49 rfl ?_
        refine j_iload_n hx 3 dX12_keepsRow_50 rfl ?_
        refine j_iadd hx (r := x1 + x3) dX12_keepsRow_51 rfl ?_
        exact j_iret hx hq rfl (by decide) (by decide) dX12_keepsRow_52 ⟨x1 + x3, rfl, rfl, hS_s2, (zFr_t zFr_rf hF_s2 (by decide)), ⟨(by omega), by omega⟩⟩
      · skip
        refine j_iload hx 4 dX12_keepsRow_9 rfl ?_
        refine j_if_eq hx 30 dX12_keepsRow_11 rfl (by omega) (fun h3 => absurd h3 (by omega)) (fun h3 => ?_)
        refine j_aload_n hx 0 dX12_keepsRow_14 rfl ?_
        refine g13_57 hx hG ha kf_RX12_125 dX12_keepsRow_15 ?_
        refine j_iload_n hx 1 dX12_keepsRow_18 rfl ?_
        refine j_iload hx 5 dX12_keepsRow_19 rfl ?_
        refine j_iadd hx (r := x1 + v1) dX12_keepsRow_21 rfl ?_
        refine j_aload_n hx 2 dX12_keepsRow_22 rfl ?_
        refine j_iload hx 5 dX12_keepsRow_23 rfl ?_
        have f4 := zah (j := (v1).toNat) hS0 hb2 aqH_84 (zlen hG hb2 (n := 515) rfl rfl) (show 0 ≤ v1 by omega) (by omega) rfl
        refine j_iald hx hG hb2 (by decide) rfl (zlen hG hb2 (n := 515) rfl rfl) (by omega) (by omega) (j := (v1).toNat) rfl (v := (s0 b2 (v1).toNat)) (by rw [(zFr_g hF_s2 hb2 (by decide))]) dX12_keepsRow_25 ?_
        refine j_iast hx hG (zr (k := 57) (t2 := 106) hG ha rfl) (by decide) rfl (zlen hG (zr (k := 57) (t2 := 106) hG ha rfl) (n := 39663) rfl rfl) (by omega) (by omega) (j := (x1 + v1).toNat) rfl dX12_keepsRow_26 ?_
        obtain ⟨s6, e_s6⟩ : ∃ z, z = zU s2 (gP G a 57) (x1 + v1).toNat ((s0 b2 (v1).toNat)) := ⟨_, rfl⟩
        rw [← e_s6]
        have hS_s6 : zSK G s6 := by rw [e_s6]; exact zSK_A hS_s2 (zr (k := 57) (t2 := 106) hG ha rfl) rfl rfl rfl (by omega)
        refine j_goto hx 43 dX12_keepsRow_27 rfl ?_
        refine j_iinc hx 5 [(5, .int (zI (v1 + 1))), (0, .ref a), (1, .int (zI x1)), (2, .ref b2), (3, .int (zI x3)), (4, .int (zI x4))] dX12_keepsRow_43 rfl (by omega) (by decide) rfl ?_
        refine j_goto hx 3 dX12_keepsRow_46 rfl ?_
        exact j_sub [1, 2, 3, 4, 5, 0] [(0, .ref a), (1, .int (zI x1)), (2, .ref b2), (3, .int (zI x3)), (4, .int (zI x4)), (5, .int (zI (v1 + 1)))] rfl (ih_c3_1 (v1 + 1) s6 (by omega) (by omega) hS_s6 (zFr_u (zFr_t zFr_rf hF_s2 (by decide)) e_s6 (zr (k := 57) (t2 := 106) hG ha rfl) (by decide)))
  exact j_sub [1, 2, 3, 4, 5, 0] [(0, .ref a), (1, .int (zI x1)), (2, .ref b2), (3, .int (zI x3)), (4, .int (zI x4)), (5, .int (zI 0))] rfl (c3_1 (2147483648 * 4) 0 s0 (by omega) (by omega) hS0 zFr_rf)

set_option maxHeartbeats 4000000 in
set_option maxRecDepth 20000 in
theorem c_X12_keepsRow_86 {E : zE} {l : Launch} (hst : l.stackTraces = false) (a : Nat) (x1 : Int) (b2 : Nat) (x3 : Int) (x4 : Int) : Con E l yX12_keepsRow cX12_keepsRow 6 (some .int) { frames := 0, cells := 0, slots := 0, locals := 0 } (fun G s vs => vs = [.ref a, .int (zI x1), .ref b2, .int (zI x3), .int (zI x4)] ∧ zGK G ∧ zSK G s ∧ (gT G a = 13) ∧ (0 ≤ x1 ∧ x1 ≤ 39663) ∧ (gT G b2 = 86) ∧ (0 ≤ x3 ∧ x3 ≤ 10000) ∧ (1 ≤ x4 ∧ x4 ≤ 1) ∧ (x1 + x3 ≤ 39663)) (fun G s _ => pI (fun r G2 s2 => G2 = G ∧ zSK G s2 ∧ zFr [106] G s s2 ∧ (0 ≤ r ∧ r ≤ 39663) ∧ r = x1 + x3)) := by
  refine Con.mk hst (by decide) (fun G s vs h => by rw [h.1]; exact Nat.le_of_ble_eq_true rfl) ?_
  rintro X G s0 vs ⟨rfl, hG, hS0, ha, hx1, hb2, hx3, hx4, e0⟩ rfl hx hq
  show JJ X E 6 G s0 0 0 [(0, .ref a), (1, .int (zI x1)), (2, .ref b2), (3, .int (zI x3)), (4, .int (zI x4))] 0 []
  refine j_iconst hx dX12_keepsRow_0 ?_
  refine j_istore hx [(5, .int (zI 0)), (0, .ref a), (1, .int (zI x1)), (2, .ref b2), (3, .int (zI x3)), (4, .int (zI x4))] dX12_keepsRow_1 (by decide) rfl ?_
  have c3_1 : ∀ (m_c3_1 : Nat) (v1 : Int) (s2 : zS), 2147483648 - v1 < m_c3_1 → (0 ≤ v1 ∧ v1 ≤ 10000) → (zSK G s2) → (zFr [106] G s0 s2) → JJ X E 6 G s2 0 0 [(0, .ref a), (1, .int (zI x1)), (2, .ref b2), (3, .int (zI x3)), (4, .int (zI x4)), (5, .int (zI v1))] 3 [] := by
    intro m_c3_1
    induction m_c3_1 with
    | zero => intro v1 s2 hm_c3_1 fA3 hS_s2 hF_s2; exfalso; omega
    | succ m_c3_1 ih_c3_1 => 
      intro v1 s2 hm_c3_1 fA3 hS_s2 hF_s2
      refine j_iload hx 5 dX12_keepsRow_3 rfl ?_
      refine j_iload_n hx 3 dX12_keepsRow_5 rfl ?_
      refine j_icmp_ge hx 49 dX12_keepsRow_6 rfl (by omega) (by omega) (fun h2 => ?_) (fun h2 => ?_)
      · skip
        refine j_iload_n hx 1 dX12_keepsRow_49 rfl ?_
        refine j_iload_n hx 3 dX12_keepsRow_50 rfl ?_
        refine j_iadd hx (r := x1 + x3) dX12_keepsRow_51 rfl ?_
        exact j_iret hx hq rfl (by decide) (by decide) dX12_keepsRow_52 ⟨x1 + x3, rfl, rfl, hS_s2, (zFr_t zFr_rf hF_s2 (by decide)), ⟨(by omega), by omega⟩⟩
      · skip
        refine j_iload hx 4 dX12_keepsRow_9 rfl ?_
        refine j_if_eq hx 30 dX12_keepsRow_11 rfl (by omega) (fun h3 => absurd h3 (by omega)) (fun h3 => ?_)
        refine j_aload_n hx 0 dX12_keepsRow_14 rfl ?_
        refine g13_57 hx hG ha kf_RX12_125 dX12_keepsRow_15 ?_
        refine j_iload_n hx 1 dX12_keepsRow_18 rfl ?_
        refine j_iload hx 5 dX12_keepsRow_19 rfl ?_
        refine j_iadd hx (r := x1 + v1) dX12_keepsRow_21 rfl ?_
        refine j_aload_n hx 2 dX12_keepsRow_22 rfl ?_
        refine j_iload hx 5 dX12_keepsRow_23 rfl ?_
        have f4 := zaI (j := (v1).toNat) hS0 hb2 rfl (zlen hG hb2 (n := 10000) rfl rfl) (show 0 ≤ v1 by omega) (by omega) rfl
        refine j_iald hx hG hb2 (by decide) rfl (zlen hG hb2 (n := 10000) rfl rfl) (by omega) (by omega) (j := (v1).toNat) rfl (v := (s0 b2 (v1).toNat)) (by rw [(zFr_g hF_s2 hb2 (by decide))]) dX12_keepsRow_25 ?_
        refine j_iast hx hG (zr (k := 57) (t2 := 106) hG ha rfl) (by decide) rfl (zlen hG (zr (k := 57) (t2 := 106) hG ha rfl) (n := 39663) rfl rfl) (by omega) (by omega) (j := (x1 + v1).toNat) rfl dX12_keepsRow_26 ?_
        obtain ⟨s6, e_s6⟩ : ∃ z, z = zU s2 (gP G a 57) (x1 + v1).toNat ((s0 b2 (v1).toNat)) := ⟨_, rfl⟩
        rw [← e_s6]
        have hS_s6 : zSK G s6 := by rw [e_s6]; exact zSK_A hS_s2 (zr (k := 57) (t2 := 106) hG ha rfl) rfl rfl rfl (by omega)
        refine j_goto hx 43 dX12_keepsRow_27 rfl ?_
        refine j_iinc hx 5 [(5, .int (zI (v1 + 1))), (0, .ref a), (1, .int (zI x1)), (2, .ref b2), (3, .int (zI x3)), (4, .int (zI x4))] dX12_keepsRow_43 rfl (by omega) (by decide) rfl ?_
        refine j_goto hx 3 dX12_keepsRow_46 rfl ?_
        exact j_sub [1, 2, 3, 4, 5, 0] [(0, .ref a), (1, .int (zI x1)), (2, .ref b2), (3, .int (zI x3)), (4, .int (zI x4)), (5, .int (zI (v1 + 1)))] rfl (ih_c3_1 (v1 + 1) s6 (by omega) (by omega) hS_s6 (zFr_u (zFr_t zFr_rf hF_s2 (by decide)) e_s6 (zr (k := 57) (t2 := 106) hG ha rfl) (by decide)))
  exact j_sub [1, 2, 3, 4, 5, 0] [(0, .ref a), (1, .int (zI x1)), (2, .ref b2), (3, .int (zI x3)), (4, .int (zI x4)), (5, .int (zI 0))] rfl (c3_1 (2147483648 * 4) 0 s0 (by omega) (by omega) hS0 zFr_rf)

set_option maxHeartbeats 4000000 in
set_option maxRecDepth 20000 in
theorem c_X12_keepsRow_91 {E : zE} {l : Launch} (hst : l.stackTraces = false) (a : Nat) (x1 : Int) (b2 : Nat) (x3 : Int) (x4 : Int) : Con E l yX12_keepsRow cX12_keepsRow 6 (some .int) { frames := 0, cells := 0, slots := 0, locals := 0 } (fun G s vs => vs = [.ref a, .int (zI x1), .ref b2, .int (zI x3), .int (zI x4)] ∧ zGK G ∧ zSK G s ∧ (gT G a = 13) ∧ (0 ≤ x1 ∧ x1 ≤ 39663) ∧ (gT G b2 = 91) ∧ (0 ≤ x3 ∧ x3 ≤ 900) ∧ (1 ≤ x4 ∧ x4 ≤ 1) ∧ (x1 + x3 ≤ 39663)) (fun G s _ => pI (fun r G2 s2 => G2 = G ∧ zSK G s2 ∧ zFr [106] G s s2 ∧ (0 ≤ r ∧ r ≤ 39663) ∧ r = x1 + x3)) := by
  refine Con.mk hst (by decide) (fun G s vs h => by rw [h.1]; exact Nat.le_of_ble_eq_true rfl) ?_
  rintro X G s0 vs ⟨rfl, hG, hS0, ha, hx1, hb2, hx3, hx4, e0⟩ rfl hx hq
  show JJ X E 6 G s0 0 0 [(0, .ref a), (1, .int (zI x1)), (2, .ref b2), (3, .int (zI x3)), (4, .int (zI x4))] 0 []
  refine j_iconst hx dX12_keepsRow_0 ?_
  refine j_istore hx [(5, .int (zI 0)), (0, .ref a), (1, .int (zI x1)), (2, .ref b2), (3, .int (zI x3)), (4, .int (zI x4))] dX12_keepsRow_1 (by decide) rfl ?_
  have c3_1 : ∀ (m_c3_1 : Nat) (v1 : Int) (s2 : zS), 2147483648 - v1 < m_c3_1 → (0 ≤ v1 ∧ v1 ≤ 900) → (zSK G s2) → (zFr [106] G s0 s2) → JJ X E 6 G s2 0 0 [(0, .ref a), (1, .int (zI x1)), (2, .ref b2), (3, .int (zI x3)), (4, .int (zI x4)), (5, .int (zI v1))] 3 [] := by
    intro m_c3_1
    induction m_c3_1 with
    | zero => intro v1 s2 hm_c3_1 fA3 hS_s2 hF_s2; exfalso; omega
    | succ m_c3_1 ih_c3_1 => 
      intro v1 s2 hm_c3_1 fA3 hS_s2 hF_s2
      refine j_iload hx 5 dX12_keepsRow_3 rfl ?_
      refine j_iload_n hx 3 dX12_keepsRow_5 rfl ?_
      refine j_icmp_ge hx 49 dX12_keepsRow_6 rfl (by omega) (by omega) (fun h2 => ?_) (fun h2 => ?_)
      · skip
        refine j_iload_n hx 1 dX12_keepsRow_49 rfl ?_
        refine j_iload_n hx 3 dX12_keepsRow_50 rfl ?_
        refine j_iadd hx (r := x1 + x3) dX12_keepsRow_51 rfl ?_
        exact j_iret hx hq rfl (by decide) (by decide) dX12_keepsRow_52 ⟨x1 + x3, rfl, rfl, hS_s2, (zFr_t zFr_rf hF_s2 (by decide)), ⟨(by omega), by omega⟩⟩
      · skip
        refine j_iload hx 4 dX12_keepsRow_9 rfl ?_
        refine j_if_eq hx 30 dX12_keepsRow_11 rfl (by omega) (fun h3 => absurd h3 (by omega)) (fun h3 => ?_)
        refine j_aload_n hx 0 dX12_keepsRow_14 rfl ?_
        refine g13_57 hx hG ha kf_RX12_125 dX12_keepsRow_15 ?_
        refine j_iload_n hx 1 dX12_keepsRow_18 rfl ?_
        refine j_iload hx 5 dX12_keepsRow_19 rfl ?_
        refine j_iadd hx (r := x1 + v1) dX12_keepsRow_21 rfl ?_
        refine j_aload_n hx 2 dX12_keepsRow_22 rfl ?_
        refine j_iload hx 5 dX12_keepsRow_23 rfl ?_
        have f4 := zaI (j := (v1).toNat) hS0 hb2 rfl (zlen hG hb2 (n := 900) rfl rfl) (show 0 ≤ v1 by omega) (by omega) rfl
        refine j_iald hx hG hb2 (by decide) rfl (zlen hG hb2 (n := 900) rfl rfl) (by omega) (by omega) (j := (v1).toNat) rfl (v := (s0 b2 (v1).toNat)) (by rw [(zFr_g hF_s2 hb2 (by decide))]) dX12_keepsRow_25 ?_
        refine j_iast hx hG (zr (k := 57) (t2 := 106) hG ha rfl) (by decide) rfl (zlen hG (zr (k := 57) (t2 := 106) hG ha rfl) (n := 39663) rfl rfl) (by omega) (by omega) (j := (x1 + v1).toNat) rfl dX12_keepsRow_26 ?_
        obtain ⟨s6, e_s6⟩ : ∃ z, z = zU s2 (gP G a 57) (x1 + v1).toNat ((s0 b2 (v1).toNat)) := ⟨_, rfl⟩
        rw [← e_s6]
        have hS_s6 : zSK G s6 := by rw [e_s6]; exact zSK_A hS_s2 (zr (k := 57) (t2 := 106) hG ha rfl) rfl rfl rfl (by omega)
        refine j_goto hx 43 dX12_keepsRow_27 rfl ?_
        refine j_iinc hx 5 [(5, .int (zI (v1 + 1))), (0, .ref a), (1, .int (zI x1)), (2, .ref b2), (3, .int (zI x3)), (4, .int (zI x4))] dX12_keepsRow_43 rfl (by omega) (by decide) rfl ?_
        refine j_goto hx 3 dX12_keepsRow_46 rfl ?_
        exact j_sub [1, 2, 3, 4, 5, 0] [(0, .ref a), (1, .int (zI x1)), (2, .ref b2), (3, .int (zI x3)), (4, .int (zI x4)), (5, .int (zI (v1 + 1)))] rfl (ih_c3_1 (v1 + 1) s6 (by omega) (by omega) hS_s6 (zFr_u (zFr_t zFr_rf hF_s2 (by decide)) e_s6 (zr (k := 57) (t2 := 106) hG ha rfl) (by decide)))
  exact j_sub [1, 2, 3, 4, 5, 0] [(0, .ref a), (1, .int (zI x1)), (2, .ref b2), (3, .int (zI x3)), (4, .int (zI x4)), (5, .int (zI 0))] rfl (c3_1 (2147483648 * 4) 0 s0 (by omega) (by omega) hS0 zFr_rf)
