theorem lk_RX6_19 : LkV RX6 19 RX6 yX6_put cX6_put 2 none 1 := ⟨km_RX6_19, ki_yX6_put, ks_RX6_yX6_put, kn_RX6, kc_yX6_put, rfl, by decide +kernel, by decide +kernel, by decide +kernel⟩
set_option maxHeartbeats 4000000 in
set_option maxRecDepth 20000 in
theorem c_X6_cardAt {E : zE} {l : Launch} (hst : l.stackTraces = false) (a : Nat) (x1 : Int) : Con E l yX6_cardAt cX6_cardAt 2 (some .int) { frames := 0, cells := 0, slots := 0, locals := 0 } (fun G s vs => vs = [.ref a, .int (zI x1)] ∧ zGK G ∧ zSK G s ∧ (gT G a = 7) ∧ ((-2147483648) ≤ x1 ∧ x1 ≤ 2147483647)) (fun G s _ => pI (fun r G2 s2 => G2 = G ∧ s2 = s ∧ ((-2147483648) ≤ r ∧ r ≤ 2147483647))) := by
  refine Con.mk hst (by decide) (fun G s vs h => by rw [h.1]; exact Nat.le_of_ble_eq_true rfl) ?_
  rintro X G s0 vs ⟨rfl, hG, hS0, ha, hx1⟩ rfl hx hq
  show JJ X E 2 G s0 0 0 [(0, .ref a), (1, .int (zI x1))] 0 []
  refine j_iload_n hx 1 dX6_cardAt_0 rfl ?_
  refine j_if_lt hx 30 dX6_cardAt_1 rfl (by omega) (fun h1 => ?_) (fun h1 => ?_)
  · skip
    refine j_iconst hx dX6_cardAt_30 ?_
    exact j_iret hx hq rfl (by decide) (by decide) dX6_cardAt_31 ⟨(-1), rfl, rfl, rfl, (by omega)⟩
  · skip
    refine j_iload_n hx 1 dX6_cardAt_4 rfl ?_
    refine j_aload_n hx 0 dX6_cardAt_5 rfl ?_
    have f2 := zf hS0 ha (k := 1) rfl
    refine g7_1 hx hG ha kf_RX6_15 rfl dX6_cardAt_6 ?_
    refine j_icmp_ge hx 30 dX6_cardAt_9 rfl (by omega) (by omega) (fun h3 => ?_) (fun h3 => ?_)
    · skip
      refine j_iconst hx dX6_cardAt_30 ?_
      exact j_iret hx hq rfl (by decide) (by decide) dX6_cardAt_31 ⟨(-1), rfl, rfl, rfl, (by omega)⟩
    · skip
      refine j_iload_n hx 1 dX6_cardAt_12 rfl ?_
      refine j_aload_n hx 0 dX6_cardAt_13 rfl ?_
      refine g7_0 hx hG ha kf_RX6_9 dX6_cardAt_14 ?_
      refine j_alen hx hG (zr (k := 0) (t2 := 41) hG ha rfl) (by decide) (by decide) (zlen hG (zr (k := 0) (t2 := 41) hG ha rfl) (n := 60) rfl rfl) dX6_cardAt_17 ?_
      refine j_icmp_ge hx 30 dX6_cardAt_18 rfl (by omega) ⟨by decide, by decide⟩ (fun h4 => absurd h4 (by omega)) (fun h4 => ?_)
      refine j_aload_n hx 0 dX6_cardAt_21 rfl ?_
      refine g7_0 hx hG ha kf_RX6_9 dX6_cardAt_22 ?_
      refine j_iload_n hx 1 dX6_cardAt_25 rfl ?_
      have f5 := zaI (j := (x1).toNat) hS0 (zr (k := 0) (t2 := 41) hG ha rfl) rfl (zlen hG (zr (k := 0) (t2 := 41) hG ha rfl) (n := 60) rfl rfl) (show 0 ≤ x1 by omega) (by omega) rfl
      refine j_iald hx hG (zr (k := 0) (t2 := 41) hG ha rfl) (by decide) rfl (zlen hG (zr (k := 0) (t2 := 41) hG ha rfl) (n := 60) rfl rfl) (by omega) (by omega) (j := (x1).toNat) rfl rfl dX6_cardAt_26 ?_
      refine j_goto hx 31 dX6_cardAt_27 rfl ?_
      exact j_iret hx hq rfl (by decide) (by decide) dX6_cardAt_31 ⟨(s0 (gP G a 0) (x1).toNat), rfl, rfl, rfl, (by omega)⟩

set_option maxHeartbeats 4000000 in
set_option maxRecDepth 20000 in
theorem c_X6_kindAt {E : zE} {l : Launch} (hst : l.stackTraces = false) (a : Nat) (x1 : Int) : Con E l yX6_kindAt cX6_kindAt 2 (some .int) { frames := 0, cells := 0, slots := 0, locals := 0 } (fun G s vs => vs = [.ref a, .int (zI x1)] ∧ zGK G ∧ zSK G s ∧ (gT G a = 7) ∧ ((-2147483648) ≤ x1 ∧ x1 ≤ 2147483647)) (fun G s _ => pI (fun r G2 s2 => G2 = G ∧ s2 = s ∧ ((-2147483648) ≤ r ∧ r ≤ 2147483647))) := by
  refine Con.mk hst (by decide) (fun G s vs h => by rw [h.1]; exact Nat.le_of_ble_eq_true rfl) ?_
  rintro X G s0 vs ⟨rfl, hG, hS0, ha, hx1⟩ rfl hx hq
  show JJ X E 2 G s0 0 0 [(0, .ref a), (1, .int (zI x1))] 0 []
  refine j_iload_n hx 1 dX6_kindAt_0 rfl ?_
  refine j_if_lt hx 32 dX6_kindAt_1 rfl (by omega) (fun h1 => ?_) (fun h1 => ?_)
  · skip
    refine j_iconst hx dX6_kindAt_32 ?_
    exact j_iret hx hq rfl (by decide) (by decide) dX6_kindAt_33 ⟨(-1), rfl, rfl, rfl, (by omega)⟩
  · skip
    refine j_iload_n hx 1 dX6_kindAt_4 rfl ?_
    refine j_aload_n hx 0 dX6_kindAt_5 rfl ?_
    have f2 := zf hS0 ha (k := 1) rfl
    refine g7_1 hx hG ha kf_RX6_15 rfl dX6_kindAt_6 ?_
    refine j_icmp_ge hx 32 dX6_kindAt_9 rfl (by omega) (by omega) (fun h3 => ?_) (fun h3 => ?_)
    · skip
      refine j_iconst hx dX6_kindAt_32 ?_
      exact j_iret hx hq rfl (by decide) (by decide) dX6_kindAt_33 ⟨(-1), rfl, rfl, rfl, (by omega)⟩
    · skip
      refine j_iload_n hx 1 dX6_kindAt_12 rfl ?_
      refine j_aload_n hx 0 dX6_kindAt_13 rfl ?_
      refine g7_0 hx hG ha kf_RX6_9 dX6_kindAt_14 ?_
      refine j_alen hx hG (zr (k := 0) (t2 := 41) hG ha rfl) (by decide) (by decide) (zlen hG (zr (k := 0) (t2 := 41) hG ha rfl) (n := 60) rfl rfl) dX6_kindAt_17 ?_
      refine j_icmp_ge hx 32 dX6_kindAt_18 rfl (by omega) ⟨by decide, by decide⟩ (fun h4 => absurd h4 (by omega)) (fun h4 => ?_)
      refine j_aload_n hx 0 dX6_kindAt_21 rfl ?_
      refine g7_0 hx hG ha kf_RX6_9 dX6_kindAt_22 ?_
      refine j_iload_n hx 1 dX6_kindAt_25 rfl ?_
      have f5 := zaI (j := (x1).toNat) hS0 (zr (k := 0) (t2 := 41) hG ha rfl) rfl (zlen hG (zr (k := 0) (t2 := 41) hG ha rfl) (n := 60) rfl rfl) (show 0 ≤ x1 by omega) (by omega) rfl
      refine j_iald hx hG (zr (k := 0) (t2 := 41) hG ha rfl) (by decide) rfl (zlen hG (zr (k := 0) (t2 := 41) hG ha rfl) (n := 60) rfl rfl) (by omega) (by omega) (j := (x1).toNat) rfl rfl dX6_kindAt_26 ?_
      refine j_iconst hx dX6_kindAt_27 ?_
      refine j_ishr hx 1 2 dX6_kindAt_28 (by omega) rfl (by decide) (by decide) (fun v6 f7 f8 f9 f10 => ?_)
      refine j_goto hx 33 dX6_kindAt_29 rfl ?_
      exact j_iret hx hq rfl (by decide) (by decide) dX6_kindAt_33 ⟨v6, rfl, rfl, rfl, (by omega)⟩

set_option maxHeartbeats 4000000 in
set_option maxRecDepth 20000 in
theorem c_X6_topKind {E : zE} {l : Launch} (hst : l.stackTraces = false) (a : Nat) : Con E l yX6_topKind cX6_topKind 1 (some .int) { frames := 0, cells := 0, slots := 0, locals := 0 } (fun G s vs => vs = [.ref a] ∧ zGK G ∧ zSK G s ∧ (gT G a = 7)) (fun G s _ => pI (fun r G2 s2 => G2 = G ∧ s2 = s ∧ ((-2147483648) ≤ r ∧ r ≤ 2147483647))) := by
  refine Con.mk hst (by decide) (fun G s vs h => by rw [h.1]; exact Nat.le_of_ble_eq_true rfl) ?_
  rintro X G s0 vs ⟨rfl, hG, hS0, ha⟩ rfl hx hq
  show JJ X E 1 G s0 0 0 [(0, .ref a)] 0 []
  refine j_aload_n hx 0 dX6_topKind_0 rfl ?_
  have f1 := zf hS0 ha (k := 1) rfl
  refine g7_1 hx hG ha kf_RX6_15 rfl dX6_topKind_1 ?_
  refine j_if_le hx 35 dX6_topKind_4 rfl (by omega) (fun h2 => ?_) (fun h2 => ?_)
  · skip
    refine j_iconst hx dX6_topKind_35 ?_
    exact j_iret hx hq rfl (by decide) (by decide) dX6_topKind_36 ⟨(-1), rfl, rfl, rfl, (by omega)⟩
  · skip
    refine j_aload_n hx 0 dX6_topKind_7 rfl ?_
    refine g7_1 hx hG ha kf_RX6_15 rfl dX6_topKind_8 ?_
    refine j_aload_n hx 0 dX6_topKind_11 rfl ?_
    refine g7_0 hx hG ha kf_RX6_9 dX6_topKind_12 ?_
    refine j_alen hx hG (zr (k := 0) (t2 := 41) hG ha rfl) (by decide) (by decide) (zlen hG (zr (k := 0) (t2 := 41) hG ha rfl) (n := 60) rfl rfl) dX6_topKind_15 ?_
    refine j_icmp_gt hx 35 dX6_topKind_16 rfl (by omega) ⟨by decide, by decide⟩ (fun h3 => absurd h3 (by omega)) (fun h3 => ?_)
    refine j_aload_n hx 0 dX6_topKind_19 rfl ?_
    refine g7_0 hx hG ha kf_RX6_9 dX6_topKind_20 ?_
    refine j_aload_n hx 0 dX6_topKind_23 rfl ?_
    refine g7_1 hx hG ha kf_RX6_15 rfl dX6_topKind_24 ?_
    refine j_iconst hx dX6_topKind_27 ?_
    refine j_isub hx (r := (s0 a 1) - 1) dX6_topKind_28 (by omega) ?_
    have f4 := zaI (j := ((s0 a 1) - 1).toNat) hS0 (zr (k := 0) (t2 := 41) hG ha rfl) rfl (zlen hG (zr (k := 0) (t2 := 41) hG ha rfl) (n := 60) rfl rfl) (show 0 ≤ (s0 a 1) - 1 by omega) (by omega) rfl
    refine j_iald hx hG (zr (k := 0) (t2 := 41) hG ha rfl) (by decide) rfl (zlen hG (zr (k := 0) (t2 := 41) hG ha rfl) (n := 60) rfl rfl) (by omega) (by omega) (j := ((s0 a 1) - 1).toNat) rfl rfl dX6_topKind_29 ?_
    refine j_iconst hx dX6_topKind_30 ?_
    refine j_ishr hx 1 2 dX6_topKind_31 (by omega) rfl (by decide) (by decide) (fun v5 f6 f7 f8 f9 => ?_)
    refine j_goto hx 36 dX6_topKind_32 rfl ?_
    exact j_iret hx hq rfl (by decide) (by decide) dX6_topKind_36 ⟨v5, rfl, rfl, rfl, (by omega)⟩

set_option maxHeartbeats 4000000 in
set_option maxRecDepth 20000 in
theorem c_X6_put {E : zE} {l : Launch} (hst : l.stackTraces = false) (a : Nat) (x1 : Int) : Con E l yX6_put cX6_put 2 none { frames := 0, cells := 0, slots := 0, locals := 0 } (fun G s vs => vs = [.ref a, .int (zI x1)] ∧ zGK G ∧ zSK G s ∧ (gT G a = 7) ∧ ((-2147483648) ≤ x1 ∧ x1 ≤ 2147483647)) (fun G s _ => pV (fun G2 s2 => G2 = G ∧ zSK G s2 ∧ zFr [7, 41] G s s2 ∧ True)) := by
  refine Con.mk hst (by decide) (fun G s vs h => by rw [h.1]; exact Nat.le_of_ble_eq_true rfl) ?_
  rintro X G s0 vs ⟨rfl, hG, hS0, ha, hx1⟩ rfl hx hq
  show JJ X E 2 G s0 0 0 [(0, .ref a), (1, .int (zI x1))] 0 []
  refine j_aload_n hx 0 dX6_put_0 rfl ?_
  have f1 := zf hS0 ha (k := 1) rfl
  refine g7_1 hx hG ha kf_RX6_15 rfl dX6_put_1 ?_
  refine j_if_lt hx 39 dX6_put_4 rfl (by omega) (fun h2 => absurd h2 (by omega)) (fun h2 => ?_)
  refine j_aload_n hx 0 dX6_put_7 rfl ?_
  refine g7_1 hx hG ha kf_RX6_15 rfl dX6_put_8 ?_
  refine j_aload_n hx 0 dX6_put_11 rfl ?_
  refine g7_0 hx hG ha kf_RX6_9 dX6_put_12 ?_
  refine j_alen hx hG (zr (k := 0) (t2 := 41) hG ha rfl) (by decide) (by decide) (zlen hG (zr (k := 0) (t2 := 41) hG ha rfl) (n := 60) rfl rfl) dX6_put_15 ?_
  refine j_icmp_ge hx 39 dX6_put_16 rfl (by omega) ⟨by decide, by decide⟩ (fun h3 => ?_) (fun h3 => ?_)
  · skip
    exact j_vret hx hq rfl (by decide) (by decide) dX6_put_39 ⟨rfl, rfl, hS0, zFr_rf, trivial⟩
  · skip
    refine j_aload_n hx 0 dX6_put_19 rfl ?_
    refine g7_0 hx hG ha kf_RX6_9 dX6_put_20 ?_
    refine j_aload_n hx 0 dX6_put_23 rfl ?_
    refine g7_1 hx hG ha kf_RX6_15 rfl dX6_put_24 ?_
    refine j_iload_n hx 1 dX6_put_27 rfl ?_
    refine j_iast hx hG (zr (k := 0) (t2 := 41) hG ha rfl) (by decide) rfl (zlen hG (zr (k := 0) (t2 := 41) hG ha rfl) (n := 60) rfl rfl) (by omega) (by omega) (j := ((s0 a 1)).toNat) rfl dX6_put_28 ?_
    obtain ⟨s1, e_s1⟩ : ∃ z, z = zU s0 (gP G a 0) ((s0 a 1)).toNat x1 := ⟨_, rfl⟩
    rw [← e_s1]
    have hS_s1 : zSK G s1 := by rw [e_s1]; exact zSK_A hS0 (zr (k := 0) (t2 := 41) hG ha rfl) rfl rfl rfl (by omega)
    refine j_aload_n hx 0 dX6_put_29 rfl ?_
    refine j_dup hx dX6_put_30 rfl ?_
    refine g7_1 hx hG ha kf_RX6_15 (v := (s0 a 1)) (by rw [e_s1, zU_at (Or.inl (zne (zr (k := 0) (t2 := 41) hG ha rfl) ha (by decide)))]) dX6_put_31 ?_
    refine j_iconst hx dX6_put_34 ?_
    refine j_iadd hx (r := (s0 a 1) + 1) dX6_put_35 (by omega) ?_
    refine p7_1 hx hG ha kf_RX6_15 dX6_put_36 ?_
    obtain ⟨s2, e_s2⟩ : ∃ z, z = zU s1 a 1 ((s0 a 1) + 1) := ⟨_, rfl⟩
    rw [← e_s2]
    have hS_s2 : zSK G s2 := by rw [e_s2]; exact zSK_F hS_s1 ha rfl rfl rfl (by omega)
    exact j_vret hx hq rfl (by decide) (by decide) dX6_put_39 ⟨rfl, rfl, hS_s2, (zFr_u (zFr_u zFr_rf e_s1 (zr (k := 0) (t2 := 41) hG ha rfl) (by decide)) e_s2 ha (by decide)), trivial⟩

set_option maxHeartbeats 4000000 in
set_option maxRecDepth 20000 in
theorem c_X6_takeFirst {E : zE} {l : Launch} (hst : l.stackTraces = false) (a : Nat) : Con E l yX6_takeFirst cX6_takeFirst 3 (some .int) { frames := 0, cells := 0, slots := 0, locals := 0 } (fun G s vs => vs = [.ref a] ∧ zGK G ∧ zSK G s ∧ (gT G a = 7)) (fun G s _ => pI (fun r G2 s2 => G2 = G ∧ zSK G s2 ∧ zFr [7, 41] G s s2 ∧ ((-2147483648) ≤ r ∧ r ≤ 2147483647))) := by
  refine Con.mk hst (by decide) (fun G s vs h => by rw [h.1]; exact Nat.le_of_ble_eq_true rfl) ?_
  rintro X G s0 vs ⟨rfl, hG, hS0, ha⟩ rfl hx hq
  show JJ X E 3 G s0 0 0 [(0, .ref a)] 0 []
  refine j_aload_n hx 0 dX6_takeFirst_0 rfl ?_
  have f1 := zf hS0 ha (k := 1) rfl
  refine g7_1 hx hG ha kf_RX6_15 rfl dX6_takeFirst_1 ?_
  refine j_if_le hx 19 dX6_takeFirst_4 rfl (by omega) (fun h2 => ?_) (fun h2 => ?_)
  · skip
    refine j_iconst hx dX6_takeFirst_19 ?_
    exact j_iret hx hq rfl (by decide) (by decide) dX6_takeFirst_20 ⟨(-1), rfl, rfl, hS0, zFr_rf, (by omega)⟩
  · skip
    refine j_aload_n hx 0 dX6_takeFirst_7 rfl ?_
    refine g7_1 hx hG ha kf_RX6_15 rfl dX6_takeFirst_8 ?_
    refine j_aload_n hx 0 dX6_takeFirst_11 rfl ?_
    refine g7_0 hx hG ha kf_RX6_9 dX6_takeFirst_12 ?_
    refine j_alen hx hG (zr (k := 0) (t2 := 41) hG ha rfl) (by decide) (by decide) (zlen hG (zr (k := 0) (t2 := 41) hG ha rfl) (n := 60) rfl rfl) dX6_takeFirst_15 ?_
    refine j_icmp_le hx 21 dX6_takeFirst_16 rfl (by omega) ⟨by decide, by decide⟩ (fun h3 => ?_) (fun h3 => absurd h3 (by omega))
    refine j_aload_n hx 0 dX6_takeFirst_21 rfl ?_
    refine g7_0 hx hG ha kf_RX6_9 dX6_takeFirst_22 ?_
    refine j_iconst hx dX6_takeFirst_25 ?_
    have f4 := zaI (j := 0) hS0 (zr (k := 0) (t2 := 41) hG ha rfl) rfl (zlen hG (zr (k := 0) (t2 := 41) hG ha rfl) (n := 60) rfl rfl) (show 0 ≤ 0 by omega) (by omega) rfl
    refine j_iald hx hG (zr (k := 0) (t2 := 41) hG ha rfl) (by decide) rfl (zlen hG (zr (k := 0) (t2 := 41) hG ha rfl) (n := 60) rfl rfl) (by omega) (by omega) (j := 0) rfl rfl dX6_takeFirst_26 ?_
    refine j_istore_n hx [(1, .int (zI ((s0 (gP G a 0) 0)))), (0, .ref a)] dX6_takeFirst_27 (by decide) rfl ?_
    refine j_iconst hx dX6_takeFirst_28 ?_
    refine j_istore_n hx [(2, .int (zI 1)), (1, .int (zI ((s0 (gP G a 0) 0)))), (0, .ref a)] dX6_takeFirst_29 (by decide) rfl ?_
    have c30_1 : ∀ (m_c30_1 : Nat) (v5 : Int) (s2 : zS), 2147483648 - v5 < m_c30_1 → (1 ≤ v5 ∧ v5 ≤ 60) → (zSK G s2) → (zFr [41] G s0 s2) → JJ X E 3 G s2 0 0 [(0, .ref a), (1, .int (zI ((s0 (gP G a 0) 0)))), (2, .int (zI v5))] 30 [] := by
      intro m_c30_1
      induction m_c30_1 with
      | zero => intro v5 s2 hm_c30_1 f3 hS_s2 hF_s2; exfalso; omega
      | succ m_c30_1 ih_c30_1 => 
        intro v5 s2 hm_c30_1 f3 hS_s2 hF_s2
        refine j_iload_n hx 2 dX6_takeFirst_30 rfl ?_
        refine j_aload_n hx 0 dX6_takeFirst_31 rfl ?_
        refine g7_1 hx hG ha kf_RX6_15 (v := (s0 a 1)) (by rw [(zFr_g hF_s2 ha (by decide))]) dX6_takeFirst_32 ?_
        refine j_icmp_ge hx 58 dX6_takeFirst_35 rfl (by omega) (by omega) (fun h6 => ?_) (fun h6 => ?_)
        · skip
          refine j_aload_n hx 0 dX6_takeFirst_58 rfl ?_
          refine j_dup hx dX6_takeFirst_59 rfl ?_
          refine g7_1 hx hG ha kf_RX6_15 (v := (s0 a 1)) (by rw [(zFr_g hF_s2 ha (by decide))]) dX6_takeFirst_60 ?_
          refine j_iconst hx dX6_takeFirst_63 ?_
          refine j_isub hx (r := (s0 a 1) - 1) dX6_takeFirst_64 (by omega) ?_
          refine p7_1 hx hG ha kf_RX6_15 dX6_takeFirst_65 ?_
          obtain ⟨s6, e_s6⟩ : ∃ z, z = zU s2 a 1 ((s0 a 1) - 1) := ⟨_, rfl⟩
          rw [← e_s6]
          have hS_s6 : zSK G s6 := by rw [e_s6]; exact zSK_F hS_s2 ha rfl rfl rfl (by omega)
          refine j_iload_n hx 1 dX6_takeFirst_68 rfl ?_
          exact j_iret hx hq rfl (by decide) (by decide) dX6_takeFirst_69 ⟨(s0 (gP G a 0) 0), rfl, rfl, hS_s6, (zFr_u (zFr_t zFr_rf hF_s2 (by decide)) e_s6 ha (by decide)), (by omega)⟩
        · skip
          refine j_aload_n hx 0 dX6_takeFirst_38 rfl ?_
          refine g7_0 hx hG ha kf_RX6_9 dX6_takeFirst_39 ?_
          refine j_iload_n hx 2 dX6_takeFirst_42 rfl ?_
          refine j_iconst hx dX6_takeFirst_43 ?_
          refine j_isub hx (r := v5 - 1) dX6_takeFirst_44 rfl ?_
          refine j_aload_n hx 0 dX6_takeFirst_45 rfl ?_
          refine g7_0 hx hG ha kf_RX6_9 dX6_takeFirst_46 ?_
          refine j_iload_n hx 2 dX6_takeFirst_49 rfl ?_
          have f7 := zaI (j := (v5).toNat) hS_s2 (zr (k := 0) (t2 := 41) hG ha rfl) rfl (zlen hG (zr (k := 0) (t2 := 41) hG ha rfl) (n := 60) rfl rfl) (show 0 ≤ v5 by omega) (by omega) rfl
          refine j_iald hx hG (zr (k := 0) (t2 := 41) hG ha rfl) (by decide) rfl (zlen hG (zr (k := 0) (t2 := 41) hG ha rfl) (n := 60) rfl rfl) (by omega) (by omega) (j := (v5).toNat) rfl rfl dX6_takeFirst_50 ?_
          refine j_iast hx hG (zr (k := 0) (t2 := 41) hG ha rfl) (by decide) rfl (zlen hG (zr (k := 0) (t2 := 41) hG ha rfl) (n := 60) rfl rfl) (by omega) (by omega) (j := (v5 - 1).toNat) rfl dX6_takeFirst_51 ?_
          obtain ⟨s7, e_s7⟩ : ∃ z, z = zU s2 (gP G a 0) (v5 - 1).toNat ((s2 (gP G a 0) (v5).toNat)) := ⟨_, rfl⟩
          rw [← e_s7]
          have hS_s7 : zSK G s7 := by rw [e_s7]; exact zSK_A hS_s2 (zr (k := 0) (t2 := 41) hG ha rfl) rfl rfl rfl (by omega)
          refine j_iinc hx 2 [(2, .int (zI (v5 + 1))), (0, .ref a), (1, .int (zI ((s0 (gP G a 0) 0))))] dX6_takeFirst_52 rfl (by omega) (by decide) rfl ?_
          refine j_goto hx 30 dX6_takeFirst_55 rfl ?_
          exact j_sub [1, 2, 0] [(0, .ref a), (1, .int (zI ((s0 (gP G a 0) 0)))), (2, .int (zI (v5 + 1)))] rfl (ih_c30_1 (v5 + 1) s7 (by omega) (by omega) hS_s7 (zFr_u (zFr_t zFr_rf hF_s2 (by decide)) e_s7 (zr (k := 0) (t2 := 41) hG ha rfl) (by decide)))
    exact j_sub [2, 1, 0] [(0, .ref a), (1, .int (zI ((s0 (gP G a 0) 0)))), (2, .int (zI 1))] rfl (c30_1 (2147483648 * 4) 1 s0 (by omega) (by omega) hS0 zFr_rf)

set_option maxHeartbeats 4000000 in
set_option maxRecDepth 20000 in
theorem c_X6_takeLast {E : zE} {l : Launch} (hst : l.stackTraces = false) (a : Nat) : Con E l yX6_takeLast cX6_takeLast 1 (some .int) { frames := 0, cells := 0, slots := 0, locals := 0 } (fun G s vs => vs = [.ref a] ∧ zGK G ∧ zSK G s ∧ (gT G a = 7)) (fun G s _ => pI (fun r G2 s2 => G2 = G ∧ zSK G s2 ∧ zFr [7] G s s2 ∧ ((-2147483648) ≤ r ∧ r ≤ 2147483647))) := by
  refine Con.mk hst (by decide) (fun G s vs h => by rw [h.1]; exact Nat.le_of_ble_eq_true rfl) ?_
  rintro X G s0 vs ⟨rfl, hG, hS0, ha⟩ rfl hx hq
  show JJ X E 1 G s0 0 0 [(0, .ref a)] 0 []
  refine j_aload_n hx 0 dX6_takeLast_0 rfl ?_
  have f1 := zf hS0 ha (k := 1) rfl
  refine g7_1 hx hG ha kf_RX6_15 rfl dX6_takeLast_1 ?_
  refine j_if_le hx 19 dX6_takeLast_4 rfl (by omega) (fun h2 => ?_) (fun h2 => ?_)
  · skip
    refine j_iconst hx dX6_takeLast_19 ?_
    exact j_iret hx hq rfl (by decide) (by decide) dX6_takeLast_20 ⟨(-1), rfl, rfl, hS0, zFr_rf, (by omega)⟩
  · skip
    refine j_aload_n hx 0 dX6_takeLast_7 rfl ?_
    refine g7_1 hx hG ha kf_RX6_15 rfl dX6_takeLast_8 ?_
    refine j_aload_n hx 0 dX6_takeLast_11 rfl ?_
    refine g7_0 hx hG ha kf_RX6_9 dX6_takeLast_12 ?_
    refine j_alen hx hG (zr (k := 0) (t2 := 41) hG ha rfl) (by decide) (by decide) (zlen hG (zr (k := 0) (t2 := 41) hG ha rfl) (n := 60) rfl rfl) dX6_takeLast_15 ?_
    refine j_icmp_le hx 21 dX6_takeLast_16 rfl (by omega) ⟨by decide, by decide⟩ (fun h3 => ?_) (fun h3 => absurd h3 (by omega))
    refine j_aload_n hx 0 dX6_takeLast_21 rfl ?_
    refine j_dup hx dX6_takeLast_22 rfl ?_
    refine g7_1 hx hG ha kf_RX6_15 rfl dX6_takeLast_23 ?_
    refine j_iconst hx dX6_takeLast_26 ?_
    refine j_isub hx (r := (s0 a 1) - 1) dX6_takeLast_27 (by omega) ?_
    refine p7_1 hx hG ha kf_RX6_15 dX6_takeLast_28 ?_
    obtain ⟨s1, e_s1⟩ : ∃ z, z = zU s0 a 1 ((s0 a 1) - 1) := ⟨_, rfl⟩
    rw [← e_s1]
    have hS_s1 : zSK G s1 := by rw [e_s1]; exact zSK_F hS0 ha rfl rfl rfl (by omega)
    refine j_aload_n hx 0 dX6_takeLast_31 rfl ?_
    refine g7_0 hx hG ha kf_RX6_9 dX6_takeLast_32 ?_
    refine j_aload_n hx 0 dX6_takeLast_35 rfl ?_
    refine g7_1 hx hG ha kf_RX6_15 (v := (s0 a 1) - 1) (by rw [e_s1, zU_eq]) dX6_takeLast_36 ?_
    have f4 := zaI (j := ((s0 a 1) - 1).toNat) hS0 (zr (k := 0) (t2 := 41) hG ha rfl) rfl (zlen hG (zr (k := 0) (t2 := 41) hG ha rfl) (n := 60) rfl rfl) (show 0 ≤ (s0 a 1) - 1 by omega) (by omega) rfl
    refine j_iald hx hG (zr (k := 0) (t2 := 41) hG ha rfl) (by decide) rfl (zlen hG (zr (k := 0) (t2 := 41) hG ha rfl) (n := 60) rfl rfl) (by omega) (by omega) (j := ((s0 a 1) - 1).toNat) rfl (v := (s0 (gP G a 0) ((s0 a 1) - 1).toNat)) (by rw [e_s1, zU_at (Or.inl (zne ha (zr (k := 0) (t2 := 41) hG ha rfl) (by decide)))]) dX6_takeLast_39 ?_
    exact j_iret hx hq rfl (by decide) (by decide) dX6_takeLast_40 ⟨(s0 (gP G a 0) ((s0 a 1) - 1).toNat), rfl, rfl, hS_s1, (zFr_u zFr_rf e_s1 ha (by decide)), (by omega)⟩

set_option maxHeartbeats 4000000 in
set_option maxRecDepth 20000 in
theorem c_X6_takeAll {E : zE} {l : Launch} (hst : l.stackTraces = false) (a : Nat) (b1 : Nat) : Con E l yX6_takeAll cX6_takeAll 3 none { frames := 1, cells := 0, slots := 0, locals := 21 } (fun G s vs => vs = [.ref a, .ref b1] ∧ zGK G ∧ zSK G s ∧ (gT G a = 7) ∧ (gT G b1 = 7)) (fun G s _ => pV (fun G2 s2 => G2 = G ∧ zSK G s2 ∧ zFr [7, 41] G s s2 ∧ True)) := by
  refine Con.mk hst (by decide) (fun G s vs h => by rw [h.1]; exact Nat.le_of_ble_eq_true rfl) ?_
  rintro X G s0 vs ⟨rfl, hG, hS0, ha, hb1⟩ rfl hx hq
  show JJ X E 3 G s0 0 0 [(0, .ref a), (1, .ref b1)] 0 []
  refine j_iconst hx dX6_takeAll_0 ?_
  refine j_istore_n hx [(2, .int (zI 0)), (0, .ref a), (1, .ref b1)] dX6_takeAll_1 (by decide) rfl ?_
  have c2_1 : ∀ (m_c2_1 : Nat) (v1 : Int) (s2 : zS), 2147483648 - v1 < m_c2_1 → (0 ≤ v1 ∧ v1 ≤ 60) → (zSK G s2) → (zFr [7, 41] G s0 s2) → JJ X E 3 G s2 0 0 [(0, .ref a), (1, .ref b1), (2, .int (zI v1))] 2 [] := by
    intro m_c2_1
    induction m_c2_1 with
    | zero => intro v1 s2 hm_c2_1 f3 hS_s2 hF_s2; exfalso; omega
    | succ m_c2_1 ih_c2_1 => 
      intro v1 s2 hm_c2_1 f3 hS_s2 hF_s2
      refine j_iload_n hx 2 dX6_takeAll_2 rfl ?_
      refine j_aload_n hx 1 dX6_takeAll_3 rfl ?_
      have f2 := zf hS_s2 hb1 (k := 1) rfl
      refine g7_1 hx hG hb1 kf_RX6_15 rfl dX6_takeAll_4 ?_
      refine j_icmp_ge hx 35 dX6_takeAll_7 rfl (by omega) (by omega) (fun h3 => ?_) (fun h3 => ?_)
      · skip
        refine j_aload_n hx 1 dX6_takeAll_35 rfl ?_
        refine j_iconst hx dX6_takeAll_36 ?_
        refine p7_1 hx hG hb1 kf_RX6_15 dX6_takeAll_37 ?_
        obtain ⟨s6, e_s6⟩ : ∃ z, z = zU s2 b1 1 0 := ⟨_, rfl⟩
        rw [← e_s6]
        have hS_s6 : zSK G s6 := by rw [e_s6]; exact zSK_F hS_s2 hb1 rfl rfl rfl (by omega)
        exact j_vret hx hq rfl (by decide) (by decide) dX6_takeAll_40 ⟨rfl, rfl, hS_s6, (zFr_u (zFr_t zFr_rf hF_s2 (by decide)) e_s6 hb1 (by decide)), trivial⟩
      · skip
        refine j_iload_n hx 2 dX6_takeAll_10 rfl ?_
        refine j_aload_n hx 1 dX6_takeAll_11 rfl ?_
        refine g7_0 hx hG hb1 kf_RX6_9 dX6_takeAll_12 ?_
        refine j_alen hx hG (zr (k := 0) (t2 := 41) hG hb1 rfl) (by decide) (by decide) (zlen hG (zr (k := 0) (t2 := 41) hG hb1 rfl) (n := 60) rfl rfl) dX6_takeAll_15 ?_
        refine j_icmp_ge hx 35 dX6_takeAll_16 rfl (by omega) ⟨by decide, by decide⟩ (fun h4 => absurd h4 (by omega)) (fun h4 => ?_)
        refine j_aload_n hx 0 dX6_takeAll_19 rfl ?_
        refine j_aload_n hx 1 dX6_takeAll_20 rfl ?_
        refine g7_0 hx hG hb1 kf_RX6_9 dX6_takeAll_21 ?_
        refine j_iload_n hx 2 dX6_takeAll_24 rfl ?_
        have f5 := zaI (j := (v1).toNat) hS_s2 (zr (k := 0) (t2 := 41) hG hb1 rfl) rfl (zlen hG (zr (k := 0) (t2 := 41) hG hb1 rfl) (n := 60) rfl rfl) (show 0 ≤ v1 by omega) (by omega) rfl
        refine j_iald hx hG (zr (k := 0) (t2 := 41) hG hb1 rfl) (by decide) rfl (zlen hG (zr (k := 0) (t2 := 41) hG hb1 rfl) (n := 60) rfl rfl) (by omega) (by omega) (j := (v1).toNat) rfl rfl dX6_takeAll_25 ?_
        refine j_callV hx hG (c_X6_put hst a ((s2 (gP G b1 0) (v1).toNat))) lk_RX6_19 ha (by decide) rfl rfl rfl rfl [.int (zI ((s2 (gP G b1 0) (v1).toNat)))] ⟨rfl, hG, hS_s2, ha, (by omega)⟩ rfl rfl ⟨by decide, by decide⟩ ⟨by decide, by decide⟩ (k2 := 0) (n2 := 0) rfl rfl (Nat.le_of_ble_eq_true rfl) dX6_takeAll_26 (kVM (fun s7 hS_s7 hF_s7 q7 => ?_))
        refine j_iinc hx 2 [(2, .int (zI (v1 + 1))), (0, .ref a), (1, .ref b1)] dX6_takeAll_29 rfl (by omega) (by decide) rfl ?_
        refine j_goto hx 2 dX6_takeAll_32 rfl ?_
        exact j_sub [1, 2, 0] [(0, .ref a), (1, .ref b1), (2, .int (zI (v1 + 1)))] rfl (ih_c2_1 (v1 + 1) s7 (by omega) (by omega) hS_s7 (zFr_t (zFr_t zFr_rf hF_s2 (by decide)) hF_s7 (by decide)))
  exact j_sub [1, 2, 0] [(0, .ref a), (1, .ref b1), (2, .int (zI 0))] rfl (c2_1 (2147483648 * 4) 0 s0 (by omega) (by omega) hS0 zFr_rf)

set_option maxHeartbeats 4000000 in
set_option maxRecDepth 20000 in
theorem c_X6_become {E : zE} {l : Launch} (hst : l.stackTraces = false) (a : Nat) (b1 : Nat) : Con E l yX6_become cX6_become 3 none { frames := 1, cells := 0, slots := 0, locals := 21 } (fun G s vs => vs = [.ref a, .ref b1] ∧ zGK G ∧ zSK G s ∧ (gT G a = 7) ∧ (gT G b1 = 7)) (fun G s _ => pV (fun G2 s2 => G2 = G ∧ zSK G s2 ∧ zFr [7, 41] G s s2 ∧ True)) := by
  refine Con.mk hst (by decide) (fun G s vs h => by rw [h.1]; exact Nat.le_of_ble_eq_true rfl) ?_
  rintro X G s0 vs ⟨rfl, hG, hS0, ha, hb1⟩ rfl hx hq
  show JJ X E 3 G s0 0 0 [(0, .ref a), (1, .ref b1)] 0 []
  refine j_aload_n hx 0 dX6_become_0 rfl ?_
  refine j_iconst hx dX6_become_1 ?_
  refine p7_1 hx hG ha kf_RX6_15 dX6_become_2 ?_
  obtain ⟨s1, e_s1⟩ : ∃ z, z = zU s0 a 1 0 := ⟨_, rfl⟩
  rw [← e_s1]
  have hS_s1 : zSK G s1 := by rw [e_s1]; exact zSK_F hS0 ha rfl rfl rfl (by omega)
  refine j_iconst hx dX6_become_5 ?_
  refine j_istore_n hx [(2, .int (zI 0)), (0, .ref a), (1, .ref b1)] dX6_become_6 (by decide) rfl ?_
  have c7_2 : ∀ (m_c7_2 : Nat) (v1 : Int) (s3 : zS), 2147483648 - v1 < m_c7_2 → (0 ≤ v1 ∧ v1 ≤ 60) → (zSK G s3) → (zFr [7, 41] G s1 s3) → JJ X E 3 G s3 0 0 [(0, .ref a), (1, .ref b1), (2, .int (zI v1))] 7 [] := by
    intro m_c7_2
    induction m_c7_2 with
    | zero => intro v1 s3 hm_c7_2 f4 hS_s3 hF_s3; exfalso; omega
    | succ m_c7_2 ih_c7_2 => 
      intro v1 s3 hm_c7_2 f4 hS_s3 hF_s3
      refine j_iload_n hx 2 dX6_become_7 rfl ?_
      refine j_aload_n hx 1 dX6_become_8 rfl ?_
      have f2 := zf hS_s3 hb1 (k := 1) rfl
      refine g7_1 hx hG hb1 kf_RX6_15 rfl dX6_become_9 ?_
      refine j_icmp_ge hx 40 dX6_become_12 rfl (by omega) (by omega) (fun h3 => ?_) (fun h3 => ?_)
      · skip
        exact j_vret hx hq rfl (by decide) (by decide) dX6_become_40 ⟨rfl, rfl, hS_s3, (zFr_t (zFr_u zFr_rf e_s1 ha (by decide)) hF_s3 (by decide)), trivial⟩
      · skip
        refine j_iload_n hx 2 dX6_become_15 rfl ?_
        refine j_aload_n hx 1 dX6_become_16 rfl ?_
        refine g7_0 hx hG hb1 kf_RX6_9 dX6_become_17 ?_
        refine j_alen hx hG (zr (k := 0) (t2 := 41) hG hb1 rfl) (by decide) (by decide) (zlen hG (zr (k := 0) (t2 := 41) hG hb1 rfl) (n := 60) rfl rfl) dX6_become_20 ?_
        refine j_icmp_ge hx 40 dX6_become_21 rfl (by omega) ⟨by decide, by decide⟩ (fun h4 => absurd h4 (by omega)) (fun h4 => ?_)
        refine j_aload_n hx 0 dX6_become_24 rfl ?_
        refine j_aload_n hx 1 dX6_become_25 rfl ?_
        refine g7_0 hx hG hb1 kf_RX6_9 dX6_become_26 ?_
        refine j_iload_n hx 2 dX6_become_29 rfl ?_
        have f5 := zaI (j := (v1).toNat) hS_s3 (zr (k := 0) (t2 := 41) hG hb1 rfl) rfl (zlen hG (zr (k := 0) (t2 := 41) hG hb1 rfl) (n := 60) rfl rfl) (show 0 ≤ v1 by omega) (by omega) rfl
        refine j_iald hx hG (zr (k := 0) (t2 := 41) hG hb1 rfl) (by decide) rfl (zlen hG (zr (k := 0) (t2 := 41) hG hb1 rfl) (n := 60) rfl rfl) (by omega) (by omega) (j := (v1).toNat) rfl rfl dX6_become_30 ?_
        refine j_callV hx hG (c_X6_put hst a ((s3 (gP G b1 0) (v1).toNat))) lk_RX6_19 ha (by decide) rfl rfl rfl rfl [.int (zI ((s3 (gP G b1 0) (v1).toNat)))] ⟨rfl, hG, hS_s3, ha, (by omega)⟩ rfl rfl ⟨by decide, by decide⟩ ⟨by decide, by decide⟩ (k2 := 0) (n2 := 0) rfl rfl (Nat.le_of_ble_eq_true rfl) dX6_become_31 (kVM (fun s7 hS_s7 hF_s7 q7 => ?_))
        refine j_iinc hx 2 [(2, .int (zI (v1 + 1))), (0, .ref a), (1, .ref b1)] dX6_become_34 rfl (by omega) (by decide) rfl ?_
        refine j_goto hx 7 dX6_become_37 rfl ?_
        exact j_sub [1, 2, 0] [(0, .ref a), (1, .ref b1), (2, .int (zI (v1 + 1)))] rfl (ih_c7_2 (v1 + 1) s7 (by omega) (by omega) hS_s7 (zFr_t (zFr_t zFr_rf hF_s3 (by decide)) hF_s7 (by decide)))
  exact j_sub [1, 2, 0] [(0, .ref a), (1, .ref b1), (2, .int (zI 0))] rfl (c7_2 (2147483648 * 4) 0 s1 (by omega) (by omega) hS_s1 zFr_rf)

set_option maxHeartbeats 4000000 in
set_option maxRecDepth 20000 in
theorem c_X6_exchange {E : zE} {l : Launch} (hst : l.stackTraces = false) (a : Nat) (x1 : Int) (x2 : Int) : Con E l yX6_exchange cX6_exchange 4 none { frames := 0, cells := 0, slots := 0, locals := 0 } (fun G s vs => vs = [.ref a, .int (zI x1), .int (zI x2)] ∧ zGK G ∧ zSK G s ∧ (gT G a = 7) ∧ ((-2147483648) ≤ x1 ∧ x1 ≤ 2147483647) ∧ ((-2147483648) ≤ x2 ∧ x2 ≤ 2147483647)) (fun G s _ => pV (fun G2 s2 => G2 = G ∧ zSK G s2 ∧ zFr [41] G s s2 ∧ True)) := by
  refine Con.mk hst (by decide) (fun G s vs h => by rw [h.1]; exact Nat.le_of_ble_eq_true rfl) ?_
  rintro X G s0 vs ⟨rfl, hG, hS0, ha, hx1, hx2⟩ rfl hx hq
  show JJ X E 4 G s0 0 0 [(0, .ref a), (1, .int (zI x1)), (2, .int (zI x2))] 0 []
  refine j_iload_n hx 1 dX6_exchange_0 rfl ?_
  refine j_if_lt hx 52 dX6_exchange_1 rfl (by omega) (fun h1 => ?_) (fun h1 => ?_)
  · skip
    exact j_vret hx hq rfl (by decide) (by decide) dX6_exchange_52 ⟨rfl, rfl, hS0, zFr_rf, trivial⟩
  · skip
    refine j_iload_n hx 1 dX6_exchange_4 rfl ?_
    refine j_aload_n hx 0 dX6_exchange_5 rfl ?_
    refine g7_0 hx hG ha kf_RX6_9 dX6_exchange_6 ?_
    refine j_alen hx hG (zr (k := 0) (t2 := 41) hG ha rfl) (by decide) (by decide) (zlen hG (zr (k := 0) (t2 := 41) hG ha rfl) (n := 60) rfl rfl) dX6_exchange_9 ?_
    refine j_icmp_ge hx 52 dX6_exchange_10 rfl (by omega) ⟨by decide, by decide⟩ (fun h2 => ?_) (fun h2 => ?_)
    · skip
      exact j_vret hx hq rfl (by decide) (by decide) dX6_exchange_52 ⟨rfl, rfl, hS0, zFr_rf, trivial⟩
    · skip
      refine j_iload_n hx 2 dX6_exchange_13 rfl ?_
      refine j_if_lt hx 52 dX6_exchange_14 rfl (by omega) (fun h3 => ?_) (fun h3 => ?_)
      · skip
        exact j_vret hx hq rfl (by decide) (by decide) dX6_exchange_52 ⟨rfl, rfl, hS0, zFr_rf, trivial⟩
      · skip
        refine j_iload_n hx 2 dX6_exchange_17 rfl ?_
        refine j_aload_n hx 0 dX6_exchange_18 rfl ?_
        refine g7_0 hx hG ha kf_RX6_9 dX6_exchange_19 ?_
        refine j_alen hx hG (zr (k := 0) (t2 := 41) hG ha rfl) (by decide) (by decide) (zlen hG (zr (k := 0) (t2 := 41) hG ha rfl) (n := 60) rfl rfl) dX6_exchange_22 ?_
        refine j_icmp_ge hx 52 dX6_exchange_23 rfl (by omega) ⟨by decide, by decide⟩ (fun h4 => ?_) (fun h4 => ?_)
        · skip
          exact j_vret hx hq rfl (by decide) (by decide) dX6_exchange_52 ⟨rfl, rfl, hS0, zFr_rf, trivial⟩
        · skip
          refine j_aload_n hx 0 dX6_exchange_26 rfl ?_
          refine g7_0 hx hG ha kf_RX6_9 dX6_exchange_27 ?_
          refine j_iload_n hx 1 dX6_exchange_30 rfl ?_
          have f5 := zaI (j := (x1).toNat) hS0 (zr (k := 0) (t2 := 41) hG ha rfl) rfl (zlen hG (zr (k := 0) (t2 := 41) hG ha rfl) (n := 60) rfl rfl) (show 0 ≤ x1 by omega) (by omega) rfl
          refine j_iald hx hG (zr (k := 0) (t2 := 41) hG ha rfl) (by decide) rfl (zlen hG (zr (k := 0) (t2 := 41) hG ha rfl) (n := 60) rfl rfl) (by omega) (by omega) (j := (x1).toNat) rfl rfl dX6_exchange_31 ?_
          refine j_istore_n hx [(3, .int (zI ((s0 (gP G a 0) (x1).toNat)))), (0, .ref a), (1, .int (zI x1)), (2, .int (zI x2))] dX6_exchange_32 (by decide) rfl ?_
          refine j_aload_n hx 1 dX6_exchange_33 rfl ?_
          refine g7_0 hx hG ha kf_RX6_9 dX6_exchange_34 ?_
          refine j_iload_n hx 2 dX6_exchange_37 rfl ?_
          refine j_aload_n hx 1 dX6_exchange_38 rfl ?_
          refine g7_0 hx hG ha kf_RX6_9 dX6_exchange_39 ?_
          refine j_iload_n hx 3 dX6_exchange_42 rfl ?_
          have f6 := zaI (j := (x2).toNat) hS0 (zr (k := 0) (t2 := 41) hG ha rfl) rfl (zlen hG (zr (k := 0) (t2 := 41) hG ha rfl) (n := 60) rfl rfl) (show 0 ≤ x2 by omega) (by omega) rfl
          refine j_iald hx hG (zr (k := 0) (t2 := 41) hG ha rfl) (by decide) rfl (zlen hG (zr (k := 0) (t2 := 41) hG ha rfl) (n := 60) rfl rfl) (by omega) (by omega) (j := (x2).toNat) rfl rfl dX6_exchange_43 ?_
          refine j_iast hx hG (zr (k := 0) (t2 := 41) hG ha rfl) (by decide) rfl (zlen hG (zr (k := 0) (t2 := 41) hG ha rfl) (n := 60) rfl rfl) (by omega) (by omega) (j := (x1).toNat) rfl dX6_exchange_44 ?_
          obtain ⟨s1, e_s1⟩ : ∃ z, z = zU s0 (gP G a 0) (x1).toNat ((s0 (gP G a 0) (x2).toNat)) := ⟨_, rfl⟩
          rw [← e_s1]
          have hS_s1 : zSK G s1 := by rw [e_s1]; exact zSK_A hS0 (zr (k := 0) (t2 := 41) hG ha rfl) rfl rfl rfl (by omega)
          refine j_aload_n hx 1 dX6_exchange_45 rfl ?_
          refine g7_0 hx hG ha kf_RX6_9 dX6_exchange_46 ?_
          refine j_iload_n hx 3 dX6_exchange_49 rfl ?_
          refine j_iload_n hx 0 dX6_exchange_50 rfl ?_
          refine j_iast hx hG (zr (k := 0) (t2 := 41) hG ha rfl) (by decide) rfl (zlen hG (zr (k := 0) (t2 := 41) hG ha rfl) (n := 60) rfl rfl) (by omega) (by omega) (j := (x2).toNat) rfl dX6_exchange_51 ?_
          obtain ⟨s2, e_s2⟩ : ∃ z, z = zU s1 (gP G a 0) (x2).toNat ((s0 (gP G a 0) (x1).toNat)) := ⟨_, rfl⟩
          rw [← e_s2]
          have hS_s2 : zSK G s2 := by rw [e_s2]; exact zSK_A hS_s1 (zr (k := 0) (t2 := 41) hG ha rfl) rfl rfl rfl (by omega)
          exact j_vret hx hq rfl (by decide) (by decide) dX6_exchange_52 ⟨rfl, rfl, hS_s2, (zFr_u (zFr_u zFr_rf e_s1 (zr (k := 0) (t2 := 41) hG ha rfl) (by decide)) e_s2 (zr (k := 0) (t2 := 41) hG ha rfl) (by decide)), trivial⟩

set_option maxHeartbeats 4000000 in
set_option maxRecDepth 20000 in
theorem c_X6_openFirst {E : zE} {l : Launch} (hst : l.stackTraces = false) (a : Nat) (x1 : Int) : Con E l yX6_openFirst cX6_openFirst 3 none { frames := 0, cells := 0, slots := 0, locals := 0 } (fun G s vs => vs = [.ref a, .int (zI x1)] ∧ zGK G ∧ zSK G s ∧ (gT G a = 7) ∧ ((-2147483648) ≤ x1 ∧ x1 ≤ 2147483647)) (fun G s _ => pV (fun G2 s2 => G2 = G ∧ zSK G s2 ∧ zFr [41] G s s2 ∧ True)) := by
  refine Con.mk hst (by decide) (fun G s vs h => by rw [h.1]; exact Nat.le_of_ble_eq_true rfl) ?_
  rintro X G s0 vs ⟨rfl, hG, hS0, ha, hx1⟩ rfl hx hq
  show JJ X E 3 G s0 0 0 [(0, .ref a), (1, .int (zI x1))] 0 []
  refine j_iconst hx dX6_openFirst_0 ?_
  refine j_istore_n hx [(2, .int (zI 0)), (0, .ref a), (1, .int (zI x1))] dX6_openFirst_1 (by decide) rfl ?_
  have c2_1 : ∀ (m_c2_1 : Nat) (v1 : Int) (s2 : zS), 2147483648 - v1 < m_c2_1 → (0 ≤ v1 ∧ v1 ≤ 60) → (zSK G s2) → (zFr [41] G s0 s2) → JJ X E 3 G s2 0 0 [(0, .ref a), (1, .int (zI x1)), (2, .int (zI v1))] 2 [] := by
    intro m_c2_1
    induction m_c2_1 with
    | zero => intro v1 s2 hm_c2_1 f3 hS_s2 hF_s2; exfalso; omega
    | succ m_c2_1 ih_c2_1 => 
      intro v1 s2 hm_c2_1 f3 hS_s2 hF_s2
      refine j_iload_n hx 2 dX6_openFirst_2 rfl ?_
      refine j_iload_n hx 1 dX6_openFirst_3 rfl ?_
      refine j_icmp_ge hx 40 dX6_openFirst_4 rfl (by omega) (by omega) (fun h2 => ?_) (fun h2 => ?_)
      · skip
        exact j_vret hx hq rfl (by decide) (by decide) dX6_openFirst_40 ⟨rfl, rfl, hS_s2, (zFr_t zFr_rf hF_s2 (by decide)), trivial⟩
      · skip
        refine j_iload_n hx 2 dX6_openFirst_7 rfl ?_
        refine j_aload_n hx 0 dX6_openFirst_8 rfl ?_
        have f3 := zf hS0 ha (k := 1) rfl
        refine g7_1 hx hG ha kf_RX6_15 (v := (s0 a 1)) (by rw [(zFr_g hF_s2 ha (by decide))]) dX6_openFirst_9 ?_
        refine j_icmp_ge hx 40 dX6_openFirst_12 rfl (by omega) (by omega) (fun h4 => ?_) (fun h4 => ?_)
        · skip
          exact j_vret hx hq rfl (by decide) (by decide) dX6_openFirst_40 ⟨rfl, rfl, hS_s2, (zFr_t zFr_rf hF_s2 (by decide)), trivial⟩
        · skip
          refine j_iload_n hx 2 dX6_openFirst_15 rfl ?_
          refine j_aload_n hx 0 dX6_openFirst_16 rfl ?_
          refine g7_0 hx hG ha kf_RX6_9 dX6_openFirst_17 ?_
          refine j_alen hx hG (zr (k := 0) (t2 := 41) hG ha rfl) (by decide) (by decide) (zlen hG (zr (k := 0) (t2 := 41) hG ha rfl) (n := 60) rfl rfl) dX6_openFirst_20 ?_
          refine j_icmp_ge hx 40 dX6_openFirst_21 rfl (by omega) ⟨by decide, by decide⟩ (fun h5 => absurd h5 (by omega)) (fun h5 => ?_)
          refine j_aload_n hx 0 dX6_openFirst_24 rfl ?_
          refine g7_0 hx hG ha kf_RX6_9 dX6_openFirst_25 ?_
          refine j_iload_n hx 2 dX6_openFirst_28 rfl ?_
          refine j_dup2 hx dX6_openFirst_29 rfl rfl ?_
          have f6 := zaI (j := (v1).toNat) hS_s2 (zr (k := 0) (t2 := 41) hG ha rfl) rfl (zlen hG (zr (k := 0) (t2 := 41) hG ha rfl) (n := 60) rfl rfl) (show 0 ≤ v1 by omega) (by omega) rfl
          refine j_iald hx hG (zr (k := 0) (t2 := 41) hG ha rfl) (by decide) rfl (zlen hG (zr (k := 0) (t2 := 41) hG ha rfl) (n := 60) rfl rfl) (by omega) (by omega) (j := (v1).toNat) rfl rfl dX6_openFirst_30 ?_
          refine j_iconst hx dX6_openFirst_31 ?_
          refine j_ior hx dX6_openFirst_32 (fun v7 f8 f9 => ?_)
          refine j_iast hx hG (zr (k := 0) (t2 := 41) hG ha rfl) (by decide) rfl (zlen hG (zr (k := 0) (t2 := 41) hG ha rfl) (n := 60) rfl rfl) (by omega) (by omega) (j := (v1).toNat) rfl dX6_openFirst_33 ?_
          obtain ⟨s6, e_s6⟩ : ∃ z, z = zU s2 (gP G a 0) (v1).toNat v7 := ⟨_, rfl⟩
          rw [← e_s6]
          have hS_s6 : zSK G s6 := by rw [e_s6]; exact zSK_A hS_s2 (zr (k := 0) (t2 := 41) hG ha rfl) rfl rfl rfl (by omega)
          refine j_iinc hx 2 [(2, .int (zI (v1 + 1))), (0, .ref a), (1, .int (zI x1))] dX6_openFirst_34 rfl (by omega) (by decide) rfl ?_
          refine j_goto hx 2 dX6_openFirst_37 rfl ?_
          exact j_sub [1, 2, 0] [(0, .ref a), (1, .int (zI x1)), (2, .int (zI (v1 + 1)))] rfl (ih_c2_1 (v1 + 1) s6 (by omega) (by omega) hS_s6 (zFr_u (zFr_t zFr_rf hF_s2 (by decide)) e_s6 (zr (k := 0) (t2 := 41) hG ha rfl) (by decide)))
  exact j_sub [1, 2, 0] [(0, .ref a), (1, .int (zI x1)), (2, .int (zI 0))] rfl (c2_1 (2147483648 * 4) 0 s0 (by omega) (by omega) hS0 zFr_rf)
