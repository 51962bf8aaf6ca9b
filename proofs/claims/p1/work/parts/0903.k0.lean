theorem lk_RX0_40 : LkV RX0 40 RX0 yX0_heapOf cX0_heapOf 2 (some (.object "SnapHeaps$Pile")) 1 := ⟨km_RX0_40, ki_yX0_heapOf, ks_RX0_yX0_heapOf, kn_RX0, kc_yX0_heapOf, rfl, by decide +kernel, by decide +kernel, by decide +kernel⟩
theorem lk_RX0_36 : LkV RX0 36 RX0 yX0_rowOf cX0_rowOf 2 (some (.object "SnapHeaps$Pile")) 1 := ⟨km_RX0_36, ki_yX0_rowOf, ks_RX0_yX0_rowOf, kn_RX0, kc_yX0_rowOf, rfl, by decide +kernel, by decide +kernel, by decide +kernel⟩
theorem lk_RX0_47 : LkV RX0 47 RX0 yX0_pileOf cX0_pileOf 2 (some (.object "SnapHeaps$Pile")) 1 := ⟨km_RX0_47, ki_yX0_pileOf, ks_RX0_yX0_pileOf, kn_RX0, kc_yX0_pileOf, rfl, by decide +kernel, by decide +kernel, by decide +kernel⟩
theorem lk_RX0_56 : LkV RX0 56 RX6 yX6_become cX6_become 3 none 1 := ⟨km_RX0_56, ki_yX6_become, ks_RX6_yX6_become, kn_RX6, kc_yX6_become, rfl, by decide +kernel, by decide +kernel, by decide +kernel⟩
theorem lk_RX0_60 : LkV RX0 60 RX0 yX0_isOut cX0_isOut 2 (some .boolean) 1 := ⟨km_RX0_60, ki_yX0_isOut, ks_RX0_yX0_isOut, kn_RX0, kc_yX0_isOut, rfl, by decide +kernel, by decide +kernel, by decide +kernel⟩
theorem lk_RX0_64 : LkV RX0 64 RX0 yX0_firstIn cX0_firstIn 5 (some .int) 2 := ⟨km_RX0_64, ki_yX0_firstIn, ks_RX0_yX0_firstIn, kn_RX0, kc_yX0_firstIn, rfl, by decide +kernel, by decide +kernel, by decide +kernel⟩
theorem lk_RX0_68 : LkV RX0 68 RX0 yX0_remaining cX0_remaining 3 (some .int) 0 := ⟨km_RX0_68, ki_yX0_remaining, ks_RX0_yX0_remaining, kn_RX0, kc_yX0_remaining, rfl, by decide +kernel, by decide +kernel, by decide +kernel⟩
theorem lk_RX0_75 : LkV RX0 75 RX6 yX6_topKind cX6_topKind 1 (some .int) 0 := ⟨km_RX0_75, ki_yX6_topKind, ks_RX6_yX6_topKind, kn_RX6, kc_yX6_topKind, rfl, by decide +kernel, by decide +kernel, by decide +kernel⟩
theorem lk_RX0_72 : LkV RX0 72 RX0 yX0_likeTopsIf cX0_likeTopsIf 6 (some .int) 2 := ⟨km_RX0_72, ki_yX0_likeTopsIf, ks_RX0_yX0_likeTopsIf, kn_RX0, kc_yX0_likeTopsIf, rfl, by decide +kernel, by decide +kernel, by decide +kernel⟩
theorem lk_RX0_78 : LkV RX0 78 RX6 yX6_cardAt cX6_cardAt 2 (some .int) 1 := ⟨km_RX0_78, ki_yX6_cardAt, ks_RX6_yX6_cardAt, kn_RX6, kc_yX6_cardAt, rfl, by decide +kernel, by decide +kernel, by decide +kernel⟩
theorem lk_RX0_82 : LkV RX0 82 RX6 yX6_takeAll cX6_takeAll 3 none 1 := ⟨km_RX0_82, ki_yX6_takeAll, ks_RX6_yX6_takeAll, kn_RX6, kc_yX6_takeAll, rfl, by decide +kernel, by decide +kernel, by decide +kernel⟩
theorem lk_RX0_85 : LkV RX0 85 RX6 yX6_takeFirst cX6_takeFirst 3 (some .int) 0 := ⟨km_RX0_85, ki_yX6_takeFirst, ks_RX6_yX6_takeFirst, kn_RX6, kc_yX6_takeFirst, rfl, by decide +kernel, by decide +kernel, by decide +kernel⟩
theorem lk_RX0_88 : LkV RX0 88 RX6 yX6_put cX6_put 2 none 1 := ⟨km_RX0_88, ki_yX6_put, ks_RX6_yX6_put, kn_RX6, kc_yX6_put, rfl, by decide +kernel, by decide +kernel, by decide +kernel⟩
theorem lk_RX0_92 : LkV RX0 92 RX0 yX0_whose cX0_whose 1 (some .int) 0 := ⟨km_RX0_92, ki_yX0_whose, ks_RX0_yX0_whose, kn_RX0, kc_yX0_whose, rfl, by decide +kernel, by decide +kernel, by decide +kernel⟩
theorem lk_RX0_95 : LkV RX0 95 RX0 yX0_turnOver cX0_turnOver 2 none 1 := ⟨km_RX0_95, ki_yX0_turnOver, ks_RX0_yX0_turnOver, kn_RX0, kc_yX0_turnOver, rfl, by decide +kernel, by decide +kernel, by decide +kernel⟩
theorem lk_RX0_98 : LkV RX0 98 RX0 yX0_lay cX0_lay 3 (some .int) 1 := ⟨km_RX0_98, ki_yX0_lay, ks_RX0_yX0_lay, kn_RX0, kc_yX0_lay, rfl, by decide +kernel, by decide +kernel, by decide +kernel⟩
theorem lk_RX0_102 : LkV RX0 102 RX6 yX6_exchange cX6_exchange 4 none 2 := ⟨km_RX0_102, ki_yX6_exchange, ks_RX6_yX6_exchange, kn_RX6, kc_yX6_exchange, rfl, by decide +kernel, by decide +kernel, by decide +kernel⟩
set_option maxHeartbeats 4000000 in
set_option maxRecDepth 20000 in
theorem c_X0_rowOf {E : zE} {l : Launch} (hst : l.stackTraces = false) (a : Nat) (x1 : Int) : Con E l yX0_rowOf cX0_rowOf 2 (some (.object "SnapHeaps$Pile")) { frames := 0, cells := 0, slots := 0, locals := 0 } (fun G s vs => vs = [.ref a, .int (zI x1)] ∧ zGK G ∧ zSK G s ∧ (gT G a = 1) ∧ ((-2147483648) ≤ x1 ∧ x1 ≤ 2147483647)) (fun G s _ => pR (fun r G2 s2 => G2 = G ∧ s2 = s ∧ gT G r = 7)) := by
  refine Con.mk hst (by decide) (fun G s vs h => by rw [h.1]; exact Nat.le_of_ble_eq_true rfl) ?_
  rintro X G s0 vs ⟨rfl, hG, hS0, ha, hx1⟩ rfl hx hq
  show JJ X E 2 G s0 0 0 [(0, .ref a), (1, .int (zI x1))] 0 []
  refine j_iload_n hx 1 dX0_rowOf_0 rfl ?_
  refine j_if_gt hx 9 dX0_rowOf_1 rfl (by omega) (fun h1 => ?_) (fun h1 => ?_)
  · skip
    refine j_iload_n hx 1 dX0_rowOf_9 rfl ?_
    refine j_iconst hx dX0_rowOf_10 ?_
    refine j_icmp_ne hx 21 dX0_rowOf_11 rfl (by omega) ⟨by decide, by decide⟩ (fun h2 => ?_) (fun h2 => ?_)
    · skip
      refine j_aload_n hx 0 dX0_rowOf_21 rfl ?_
      refine g1_2 hx hG ha kf_RX0_21 dX0_rowOf_22 ?_
      exact j_aret hx hq rfl (by decide) (by decide) dX0_rowOf_25 (Or.inr ⟨_, rfl⟩) ⟨_, rfl, rfl, rfl, (zr (k := 2) (t2 := 7) hG ha rfl)⟩
    · skip
      refine j_aload_n hx 0 dX0_rowOf_14 rfl ?_
      refine g1_1 hx hG ha kf_RX0_18 dX0_rowOf_15 ?_
      refine j_goto hx 25 dX0_rowOf_18 rfl ?_
      exact j_aret hx hq rfl (by decide) (by decide) dX0_rowOf_25 (Or.inr ⟨_, rfl⟩) ⟨_, rfl, rfl, rfl, (zr (k := 1) (t2 := 7) hG ha rfl)⟩
  · skip
    refine j_aload_n hx 0 dX0_rowOf_4 rfl ?_
    refine g1_0 hx hG ha kf_RX0_12 dX0_rowOf_5 ?_
    exact j_aret hx hq rfl (by decide) (by decide) dX0_rowOf_8 (Or.inr ⟨_, rfl⟩) ⟨_, rfl, rfl, rfl, (zr (k := 0) (t2 := 7) hG ha rfl)⟩

set_option maxHeartbeats 4000000 in
set_option maxRecDepth 20000 in
theorem c_X0_heapOf {E : zE} {l : Launch} (hst : l.stackTraces = false) (a : Nat) (x1 : Int) : Con E l yX0_heapOf cX0_heapOf 2 (some (.object "SnapHeaps$Pile")) { frames := 0, cells := 0, slots := 0, locals := 0 } (fun G s vs => vs = [.ref a, .int (zI x1)] ∧ zGK G ∧ zSK G s ∧ (gT G a = 1) ∧ ((-2147483648) ≤ x1 ∧ x1 ≤ 2147483647)) (fun G s _ => pR (fun r G2 s2 => G2 = G ∧ s2 = s ∧ gT G r = 7)) := by
  refine Con.mk hst (by decide) (fun G s vs h => by rw [h.1]; exact Nat.le_of_ble_eq_true rfl) ?_
  rintro X G s0 vs ⟨rfl, hG, hS0, ha, hx1⟩ rfl hx hq
  show JJ X E 2 G s0 0 0 [(0, .ref a), (1, .int (zI x1))] 0 []
  refine j_iload_n hx 1 dX0_heapOf_0 rfl ?_
  refine j_if_gt hx 9 dX0_heapOf_1 rfl (by omega) (fun h1 => ?_) (fun h1 => ?_)
  · skip
    refine j_iload_n hx 1 dX0_heapOf_9 rfl ?_
    refine j_iconst hx dX0_heapOf_10 ?_
    refine j_icmp_ne hx 21 dX0_heapOf_11 rfl (by omega) ⟨by decide, by decide⟩ (fun h2 => ?_) (fun h2 => ?_)
    · skip
      refine j_aload_n hx 0 dX0_heapOf_21 rfl ?_
      refine g1_5 hx hG ha kf_RX0_30 dX0_heapOf_22 ?_
      exact j_aret hx hq rfl (by decide) (by decide) dX0_heapOf_25 (Or.inr ⟨_, rfl⟩) ⟨_, rfl, rfl, rfl, (zr (k := 5) (t2 := 7) hG ha rfl)⟩
    · skip
      refine j_aload_n hx 0 dX0_heapOf_14 rfl ?_
      refine g1_4 hx hG ha kf_RX0_27 dX0_heapOf_15 ?_
      refine j_goto hx 25 dX0_heapOf_18 rfl ?_
      exact j_aret hx hq rfl (by decide) (by decide) dX0_heapOf_25 (Or.inr ⟨_, rfl⟩) ⟨_, rfl, rfl, rfl, (zr (k := 4) (t2 := 7) hG ha rfl)⟩
  · skip
    refine j_aload_n hx 0 dX0_heapOf_4 rfl ?_
    refine g1_3 hx hG ha kf_RX0_24 dX0_heapOf_5 ?_
    exact j_aret hx hq rfl (by decide) (by decide) dX0_heapOf_8 (Or.inr ⟨_, rfl⟩) ⟨_, rfl, rfl, rfl, (zr (k := 3) (t2 := 7) hG ha rfl)⟩

set_option maxHeartbeats 4000000 in
set_option maxRecDepth 20000 in
theorem c_X0_pileOf {E : zE} {l : Launch} (hst : l.stackTraces = false) (a : Nat) (x1 : Int) : Con E l yX0_pileOf cX0_pileOf 2 (some (.object "SnapHeaps$Pile")) { frames := 1, cells := 0, slots := 0, locals := 21 } (fun G s vs => vs = [.ref a, .int (zI x1)] ∧ zGK G ∧ zSK G s ∧ (gT G a = 1) ∧ ((-2147483648) ≤ x1 ∧ x1 ≤ 2147483647)) (fun G s _ => pR (fun r G2 s2 => G2 = G ∧ s2 = s ∧ gT G r = 7)) := by
  refine Con.mk hst (by decide) (fun G s vs h => by rw [h.1]; exact Nat.le_of_ble_eq_true rfl) ?_
  rintro X G s0 vs ⟨rfl, hG, hS0, ha, hx1⟩ rfl hx hq
  show JJ X E 2 G s0 0 0 [(0, .ref a), (1, .int (zI x1))] 0 []
  refine j_iload_n hx 1 dX0_pileOf_0 rfl ?_
  refine j_bipush hx dX0_pileOf_1 rfl ?_
  refine j_icmp_lt hx 11 dX0_pileOf_3 rfl (by omega) ⟨by decide, by decide⟩ (fun h1 => ?_) (fun h1 => ?_)
  · skip
    refine j_iload_n hx 1 dX0_pileOf_11 rfl ?_
    refine j_iconst hx dX0_pileOf_12 ?_
    refine j_iand hx dX0_pileOf_13 (by omega) ⟨by decide, by decide⟩ (fun v2 f3 f4 f5 f6 _ => ?_)
    refine j_if_ne hx 27 dX0_pileOf_14 rfl (by omega) (fun h8 => ?_) (fun h8 => ?_)
    · skip
      refine j_aload_n hx 0 dX0_pileOf_27 rfl ?_
      refine j_iload_n hx 1 dX0_pileOf_28 rfl ?_
      refine j_iconst hx dX0_pileOf_29 ?_
      refine j_ishr hx 1 2 dX0_pileOf_30 (by omega) rfl (by decide) (by decide) (fun v9 f10 f11 f12 f13 => ?_)
      refine j_callV hx hG (c_X0_heapOf hst a v9) lk_RX0_40 ha (by decide) rfl rfl rfl rfl [.int (zI v9)] ⟨rfl, hG, hS0, ha, (by omega)⟩ rfl rfl ⟨by decide, by decide⟩ ⟨by decide, by decide⟩ (k2 := 0) (n2 := 0) rfl rfl (Nat.le_of_ble_eq_true rfl) dX0_pileOf_31 (kRP (fun r14 q15 => ?_))
      exact j_aret hx hq rfl (by decide) (by decide) dX0_pileOf_34 (Or.inr ⟨_, rfl⟩) ⟨_, rfl, rfl, rfl, q15⟩
    · skip
      refine j_aload_n hx 0 dX0_pileOf_17 rfl ?_
      refine j_iload_n hx 1 dX0_pileOf_18 rfl ?_
      refine j_iconst hx dX0_pileOf_19 ?_
      refine j_ishr hx 1 2 dX0_pileOf_20 (by omega) rfl (by decide) (by decide) (fun v16 f17 f18 f19 f20 => ?_)
      refine j_callV hx hG (c_X0_rowOf hst a v16) lk_RX0_36 ha (by decide) rfl rfl rfl rfl [.int (zI v16)] ⟨rfl, hG, hS0, ha, (by omega)⟩ rfl rfl ⟨by decide, by decide⟩ ⟨by decide, by decide⟩ (k2 := 0) (n2 := 0) rfl rfl (Nat.le_of_ble_eq_true rfl) dX0_pileOf_21 (kRP (fun r21 q22 => ?_))
      refine j_goto hx 34 dX0_pileOf_24 rfl ?_
      exact j_aret hx hq rfl (by decide) (by decide) dX0_pileOf_34 (Or.inr ⟨_, rfl⟩) ⟨_, rfl, rfl, rfl, q22⟩
  · skip
    refine j_aload_n hx 0 dX0_pileOf_6 rfl ?_
    refine g1_6 hx hG ha kf_RX0_33 dX0_pileOf_7 ?_
    exact j_aret hx hq rfl (by decide) (by decide) dX0_pileOf_10 (Or.inr ⟨_, rfl⟩) ⟨_, rfl, rfl, rfl, (zr (k := 6) (t2 := 7) hG ha rfl)⟩

set_option maxHeartbeats 4000000 in
set_option maxRecDepth 20000 in
theorem c_X0_sourceOf {E : zE} {l : Launch} (hst : l.stackTraces = false) (a : Nat) (x1 : Int) : Con E l yX0_sourceOf cX0_sourceOf 3 (some (.object "SnapHeaps$Pile")) { frames := 1, cells := 0, slots := 0, locals := 21 } (fun G s vs => vs = [.ref a, .int (zI x1)] ∧ zGK G ∧ zSK G s ∧ (gT G a = 1) ∧ ((-2147483648) ≤ x1 ∧ x1 ≤ 2147483647)) (fun G s _ => pR (fun r G2 s2 => G2 = G ∧ s2 = s ∧ gT G r = 7)) := by
  refine Con.mk hst (by decide) (fun G s vs h => by rw [h.1]; exact Nat.le_of_ble_eq_true rfl) ?_
  rintro X G s0 vs ⟨rfl, hG, hS0, ha, hx1⟩ rfl hx hq
  show JJ X E 3 G s0 0 0 [(0, .ref a), (1, .int (zI x1))] 0 []
  refine j_aload_n hx 0 dX0_sourceOf_0 rfl ?_
  refine j_iload_n hx 1 dX0_sourceOf_1 rfl ?_
  refine j_callV hx hG (c_X0_rowOf hst a x1) lk_RX0_36 ha (by decide) rfl rfl rfl rfl [.int (zI x1)] ⟨rfl, hG, hS0, ha, (by omega)⟩ rfl rfl ⟨by decide, by decide⟩ ⟨by decide, by decide⟩ (k2 := 0) (n2 := 0) rfl rfl (Nat.le_of_ble_eq_true rfl) dX0_sourceOf_2 (kRP (fun r1 q2 => ?_))
  refine j_astore_n hx [(2, .ref r1), (0, .ref a), (1, .int (zI x1))] dX0_sourceOf_5 (by decide) rfl ?_
  refine j_aload_n hx 0 dX0_sourceOf_6 rfl ?_
  have f3 := zf hS0 q2 (k := 1) rfl
  refine gN7_1 hx hG q2 kf_RX0_43 rfl dX0_sourceOf_7 ?_
  refine j_if_le hx 17 dX0_sourceOf_10 rfl (by omega) (fun h4 => ?_) (fun h4 => ?_)
  · skip
    refine j_aload_n hx 1 dX0_sourceOf_17 rfl ?_
    refine j_iload_n hx 2 dX0_sourceOf_18 rfl ?_
    refine j_callV hx hG (c_X0_heapOf hst a x1) lk_RX0_40 ha (by decide) rfl rfl rfl rfl [.int (zI x1)] ⟨rfl, hG, hS0, ha, (by omega)⟩ rfl rfl ⟨by decide, by decide⟩ ⟨by decide, by decide⟩ (k2 := 0) (n2 := 0) rfl rfl (Nat.le_of_ble_eq_true rfl) dX0_sourceOf_19 (kRP (fun r5 q6 => ?_))
    exact j_aret hx hq rfl (by decide) (by decide) dX0_sourceOf_22 (Or.inr ⟨_, rfl⟩) ⟨_, rfl, rfl, rfl, q6⟩
  · skip
    refine j_aload_n hx 0 dX0_sourceOf_13 rfl ?_
    refine j_goto hx 22 dX0_sourceOf_14 rfl ?_
    exact j_aret hx hq rfl (by decide) (by decide) dX0_sourceOf_22 (Or.inr ⟨_, rfl⟩) ⟨_, rfl, rfl, rfl, q2⟩

set_option maxHeartbeats 4000000 in
set_option maxRecDepth 20000 in
theorem c_X0_clear {E : zE} {l : Launch} (hst : l.stackTraces = false) (a : Nat) : Con E l yX0_clear cX0_clear 2 none { frames := 2, cells := 0, slots := 0, locals := 42 } (fun G s vs => vs = [.ref a] ∧ zGK G ∧ zSK G s ∧ (gT G a = 1)) (fun G s _ => pV (fun G2 s2 => G2 = G ∧ zSK G s2 ∧ zFr [1, 7] G s s2 ∧ True)) := by
  refine Con.mk hst (by decide) (fun G s vs h => by rw [h.1]; exact Nat.le_of_ble_eq_true rfl) ?_
  rintro X G s0 vs ⟨rfl, hG, hS0, ha⟩ rfl hx hq
  show JJ X E 2 G s0 0 0 [(0, .ref a)] 0 []
  refine j_iconst hx dX0_clear_0 ?_
  refine j_istore_n hx [(1, .int (zI 0)), (0, .ref a)] dX0_clear_1 (by decide) rfl ?_
  have c2_1 : ∀ (m_c2_1 : Nat) (v1 : Int) (s2 : zS), 2147483648 - v1 < m_c2_1 → (0 ≤ v1 ∧ v1 ≤ 7) → (zSK G s2) → (zFr [7] G s0 s2) → JJ X E 2 G s2 0 0 [(0, .ref a), (1, .int (zI v1))] 2 [] := by
    intro m_c2_1
    induction m_c2_1 with
    | zero => intro v1 s2 hm_c2_1 f3 hS_s2 hF_s2; exfalso; omega
    | succ m_c2_1 ih_c2_1 => 
      intro v1 s2 hm_c2_1 f3 hS_s2 hF_s2
      refine j_iload_n hx 1 dX0_clear_2 rfl ?_
      refine j_bipush hx dX0_clear_3 rfl ?_
      refine j_icmp_ge hx 23 dX0_clear_5 rfl (by omega) ⟨by decide, by decide⟩ (fun h2 => ?_) (fun h2 => ?_)
      · skip
        refine j_aload_n hx 0 dX0_clear_23 rfl ?_
        refine j_iconst hx dX0_clear_24 ?_
        refine p1_7 hx hG ha kf_RX0_50 dX0_clear_25 ?_
        obtain ⟨s6, e_s6⟩ : ∃ z, z = zU s2 a 7 0 := ⟨_, rfl⟩
        rw [← e_s6]
        have hS_s6 : zSK G s6 := by rw [e_s6]; exact zSK_F hS_s2 ha rfl rfl rfl (by omega)
        refine j_aload_n hx 0 dX0_clear_28 rfl ?_
        refine j_iconst hx dX0_clear_29 ?_
        refine p1_8 hx hG ha kf_RX0_53 dX0_clear_30 ?_
        obtain ⟨s7, e_s7⟩ : ∃ z, z = zU s6 a 8 0 := ⟨_, rfl⟩
        rw [← e_s7]
        have hS_s7 : zSK G s7 := by rw [e_s7]; exact zSK_F hS_s6 ha rfl rfl rfl (by omega)
        exact j_vret hx hq rfl (by decide) (by decide) dX0_clear_33 ⟨rfl, rfl, hS_s7, (zFr_u (zFr_u (zFr_t zFr_rf hF_s2 (by decide)) e_s6 ha (by decide)) e_s7 ha (by decide)), trivial⟩
      · skip
        refine j_aload_n hx 0 dX0_clear_8 rfl ?_
        refine j_iload_n hx 1 dX0_clear_9 rfl ?_
        refine j_callV hx hG (c_X0_pileOf hst a v1) lk_RX0_47 ha (by decide) rfl rfl rfl rfl [.int (zI v1)] ⟨rfl, hG, hS_s2, ha, (by omega)⟩ rfl rfl ⟨by decide, by decide⟩ ⟨by decide, by decide⟩ (k2 := 0) (n2 := 0) rfl rfl (Nat.le_of_ble_eq_true rfl) dX0_clear_10 (kRP (fun r3 q4 => ?_))
        refine j_iconst hx dX0_clear_13 ?_
        refine pN7_1 hx hG q4 kf_RX0_43 dX0_clear_14 ?_
        obtain ⟨s8, e_s8⟩ : ∃ z, z = zU s2 r3 1 0 := ⟨_, rfl⟩
        rw [← e_s8]
        have hS_s8 : zSK G s8 := by rw [e_s8]; exact zSK_F hS_s2 q4 rfl rfl rfl (by omega)
        refine j_iinc hx 1 [(1, .int (zI (v1 + 1))), (0, .ref a)] dX0_clear_17 rfl (by omega) (by decide) rfl ?_
        refine j_goto hx 2 dX0_clear_20 rfl ?_
        exact j_sub [1, 0] [(0, .ref a), (1, .int (zI (v1 + 1)))] rfl (ih_c2_1 (v1 + 1) s8 (by omega) (by omega) hS_s8 (zFr_u (zFr_t zFr_rf hF_s2 (by decide)) e_s8 q4 (by decide)))
  exact j_sub [1, 0] [(0, .ref a), (1, .int (zI 0))] rfl (c2_1 (2147483648 * 4) 0 s0 (by omega) (by omega) hS0 zFr_rf)

set_option maxHeartbeats 4000000 in
set_option maxRecDepth 20000 in
theorem c_X0_become {E : zE} {l : Launch} (hst : l.stackTraces = false) (a : Nat) (b1 : Nat) : Con E l yX0_become cX0_become 3 none { frames := 2, cells := 0, slots := 0, locals := 43 } (fun G s vs => vs = [.ref a, .ref b1] ∧ zGK G ∧ zSK G s ∧ (gT G a = 1) ∧ (gT G b1 = 1)) (fun G s _ => pV (fun G2 s2 => G2 = G ∧ zSK G s2 ∧ zFr [1, 7, 41] G s s2 ∧ True)) := by
  refine Con.mk hst (by decide) (fun G s vs h => by rw [h.1]; exact Nat.le_of_ble_eq_true rfl) ?_
  rintro X G s0 vs ⟨rfl, hG, hS0, ha, hb1⟩ rfl hx hq
  show JJ X E 3 G s0 0 0 [(0, .ref a), (1, .ref b1)] 0 []
  refine j_iconst hx dX0_become_0 ?_
  refine j_istore_n hx [(2, .int (zI 0)), (0, .ref a), (1, .ref b1)] dX0_become_1 (by decide) rfl ?_
  have c2_1 : ∀ (m_c2_1 : Nat) (v1 : Int) (s2 : zS), 2147483648 - v1 < m_c2_1 → (0 ≤ v1 ∧ v1 ≤ 7) → (zSK G s2) → (zFr [7, 41] G s0 s2) → JJ X E 3 G s2 0 0 [(0, .ref a), (1, .ref b1), (2, .int (zI v1))] 2 [] := by
    intro m_c2_1
    induction m_c2_1 with
    | zero => intro v1 s2 hm_c2_1 f3 hS_s2 hF_s2; exfalso; omega
    | succ m_c2_1 ih_c2_1 => 
      intro v1 s2 hm_c2_1 f3 hS_s2 hF_s2
      refine j_iload_n hx 2 dX0_become_2 rfl ?_
      refine j_bipush hx dX0_become_3 rfl ?_
      refine j_icmp_ge hx 27 dX0_become_5 rfl (by omega) ⟨by decide, by decide⟩ (fun h2 => ?_) (fun h2 => ?_)
      · skip
        refine j_aload_n hx 0 dX0_become_27 rfl ?_
        refine j_aload_n hx 1 dX0_become_28 rfl ?_
        have f3 := zf hS0 hb1 (k := 7) rfl
        refine g1_7 hx hG hb1 kf_RX0_50 (v := (s0 b1 7)) (by rw [(zFr_g hF_s2 hb1 (by decide))]) dX0_become_29 ?_
        refine p1_7 hx hG ha kf_RX0_50 dX0_become_32 ?_
        obtain ⟨s6, e_s6⟩ : ∃ z, z = zU s2 a 7 ((s0 b1 7)) := ⟨_, rfl⟩
        rw [← e_s6]
        have hS_s6 : zSK G s6 := by rw [e_s6]; exact zSK_F hS_s2 ha rfl rfl rfl (by omega)
        refine j_aload_n hx 0 dX0_become_35 rfl ?_
        refine j_aload_n hx 1 dX0_become_36 rfl ?_
        have f4 := zf hS_s6 hb1 (k := 8) rfl
        refine g1_8 hx hG hb1 kf_RX0_53 rfl dX0_become_37 ?_
        refine p1_8 hx hG ha kf_RX0_53 dX0_become_40 ?_
        obtain ⟨s7, e_s7⟩ : ∃ z, z = zU s6 a 8 ((s6 b1 8)) := ⟨_, rfl⟩
        rw [← e_s7]
        have hS_s7 : zSK G s7 := by rw [e_s7]; exact zSK_F hS_s6 ha rfl rfl rfl (by omega)
        exact j_vret hx hq rfl (by decide) (by decide) dX0_become_43 ⟨rfl, rfl, hS_s7, (zFr_u (zFr_u (zFr_t zFr_rf hF_s2 (by decide)) e_s6 ha (by decide)) e_s7 ha (by decide)), trivial⟩
      · skip
        refine j_aload_n hx 0 dX0_become_8 rfl ?_
        refine j_iload_n hx 2 dX0_become_9 rfl ?_
        refine j_callV hx hG (c_X0_pileOf hst a v1) lk_RX0_47 ha (by decide) rfl rfl rfl rfl [.int (zI v1)] ⟨rfl, hG, hS_s2, ha, (by omega)⟩ rfl rfl ⟨by decide, by decide⟩ ⟨by decide, by decide⟩ (k2 := 0) (n2 := 0) rfl rfl (Nat.le_of_ble_eq_true rfl) dX0_become_10 (kRP (fun r5 q6 => ?_))
        refine j_aload_n hx 1 dX0_become_13 rfl ?_
        refine j_iload_n hx 2 dX0_become_14 rfl ?_
        refine j_callV hx hG (c_X0_pileOf hst b1 v1) lk_RX0_47 hb1 (by decide) rfl rfl rfl rfl [.int (zI v1)] ⟨rfl, hG, hS_s2, hb1, (by omega)⟩ rfl rfl ⟨by decide, by decide⟩ ⟨by decide, by decide⟩ (k2 := 0) (n2 := 0) rfl rfl (Nat.le_of_ble_eq_true rfl) dX0_become_15 (kRP (fun r7 q8 => ?_))
        refine j_callV hx hG (c_X6_become hst r5 r7) lk_RX0_56 q6 (by decide) rfl rfl rfl rfl [.ref r7] ⟨rfl, hG, hS_s2, q6, q8⟩ rfl rfl ⟨by decide, by decide⟩ ⟨by decide, by decide⟩ (k2 := 0) (n2 := 0) rfl rfl (Nat.le_of_ble_eq_true rfl) dX0_become_18 (kVM (fun s8 hS_s8 hF_s8 q10 => ?_))
        refine j_iinc hx 2 [(2, .int (zI (v1 + 1))), (0, .ref a), (1, .ref b1)] dX0_become_21 rfl (by omega) (by decide) rfl ?_
        refine j_goto hx 2 dX0_become_24 rfl ?_
        exact j_sub [1, 2, 0] [(0, .ref a), (1, .ref b1), (2, .int (zI (v1 + 1)))] rfl (ih_c2_1 (v1 + 1) s8 (by omega) (by omega) hS_s8 (zFr_t (zFr_t zFr_rf hF_s2 (by decide)) hF_s8 (by decide)))
  exact j_sub [1, 2, 0] [(0, .ref a), (1, .ref b1), (2, .int (zI 0))] rfl (c2_1 (2147483648 * 4) 0 s0 (by omega) (by omega) hS0 zFr_rf)

set_option maxHeartbeats 4000000 in
set_option maxRecDepth 20000 in
theorem c_X0_cardsOf {E : zE} {l : Launch} (hst : l.stackTraces = false) (a : Nat) (x1 : Int) : Con E l yX0_cardsOf cX0_cardsOf 2 (some .int) { frames := 1, cells := 0, slots := 0, locals := 21 } (fun G s vs => vs = [.ref a, .int (zI x1)] ∧ zGK G ∧ zSK G s ∧ (gT G a = 1) ∧ ((-2147483648) ≤ x1 ∧ x1 ≤ 2147483647)) (fun G s _ => pI (fun r G2 s2 => G2 = G ∧ s2 = s ∧ ((-2147483648) ≤ r ∧ r ≤ 2147483647))) := by
  refine Con.mk hst (by decide) (fun G s vs h => by rw [h.1]; exact Nat.le_of_ble_eq_true rfl) ?_
  rintro X G s0 vs ⟨rfl, hG, hS0, ha, hx1⟩ rfl hx hq
  show JJ X E 2 G s0 0 0 [(0, .ref a), (1, .int (zI x1))] 0 []
  refine j_aload_n hx 0 dX0_cardsOf_0 rfl ?_
  refine j_iload_n hx 1 dX0_cardsOf_1 rfl ?_
  refine j_callV hx hG (c_X0_rowOf hst a x1) lk_RX0_36 ha (by decide) rfl rfl rfl rfl [.int (zI x1)] ⟨rfl, hG, hS0, ha, (by omega)⟩ rfl rfl ⟨by decide, by decide⟩ ⟨by decide, by decide⟩ (k2 := 0) (n2 := 0) rfl rfl (Nat.le_of_ble_eq_true rfl) dX0_cardsOf_2 (kRP (fun r1 q2 => ?_))
  have f3 := zf hS0 q2 (k := 1) rfl
  refine gN7_1 hx hG q2 kf_RX0_43 rfl dX0_cardsOf_5 ?_
  refine j_aload_n hx 0 dX0_cardsOf_8 rfl ?_
  refine j_iload_n hx 1 dX0_cardsOf_9 rfl ?_
  refine j_callV hx hG (c_X0_heapOf hst a x1) lk_RX0_40 ha (by decide) rfl rfl rfl rfl [.int (zI x1)] ⟨rfl, hG, hS0, ha, (by omega)⟩ rfl rfl ⟨by decide, by decide⟩ ⟨by decide, by decide⟩ (k2 := 0) (n2 := 0) rfl rfl (Nat.le_of_ble_eq_true rfl) dX0_cardsOf_10 (kRP (fun r4 q5 => ?_))
  have f6 := zf hS0 q5 (k := 1) rfl
  refine gN7_1 hx hG q5 kf_RX0_43 rfl dX0_cardsOf_13 ?_
  refine j_iadd hx (r := (s0 r1 1) + (s0 r4 1)) dX0_cardsOf_16 (by omega) ?_
  exact j_iret hx hq rfl (by decide) (by decide) dX0_cardsOf_17 ⟨(s0 r1 1) + (s0 r4 1), rfl, rfl, rfl, (by omega)⟩

set_option maxHeartbeats 4000000 in
set_option maxRecDepth 20000 in
theorem c_X0_allCards {E : zE} {l : Launch} (hst : l.stackTraces = false) (a : Nat) : Con E l yX0_allCards cX0_allCards 3 (some .int) { frames := 2, cells := 0, slots := 0, locals := 42 } (fun G s vs => vs = [.ref a] ∧ zGK G ∧ zSK G s ∧ (gT G a = 1)) (fun G s _ => pI (fun r G2 s2 => G2 = G ∧ s2 = s ∧ ((-2147483648) ≤ r ∧ r ≤ 2147483647))) := by
  refine Con.mk hst (by decide) (fun G s vs h => by rw [h.1]; exact Nat.le_of_ble_eq_true rfl) ?_
  rintro X G s0 vs ⟨rfl, hG, hS0, ha⟩ rfl hx hq
  show JJ X E 3 G s0 0 0 [(0, .ref a)] 0 []
  refine j_iconst hx dX0_allCards_0 ?_
  refine j_istore_n hx [(1, .int (zI 0)), (0, .ref a)] dX0_allCards_1 (by decide) rfl ?_
  refine j_iconst hx dX0_allCards_2 ?_
  refine j_istore_n hx [(2, .int (zI 0)), (1, .int (zI 0)), (0, .ref a)] dX0_allCards_3 (by decide) rfl ?_
  have c4_1 : ∀ (m_c4_1 : Nat) (v1 : Int) (v2 : Int), 2147483648 - v2 < m_c4_1 → ((-2147483648) ≤ v1 ∧ v1 ≤ 2147483647) → (0 ≤ v2 ∧ v2 ≤ 7) → JJ X E 3 G s0 0 0 [(0, .ref a), (1, .int (zI v1)), (2, .int (zI v2))] 4 [] := by
    intro m_c4_1
    induction m_c4_1 with
    | zero => intro v1 v2 hm_c4_1 f2 f3; exfalso; omega
    | succ m_c4_1 ih_c4_1 => 
      intro v1 v2 hm_c4_1 f2 f3
      refine j_iload_n hx 2 dX0_allCards_4 rfl ?_
      refine j_bipush hx dX0_allCards_5 rfl ?_
      refine j_icmp_ge hx 27 dX0_allCards_7 rfl (by omega) ⟨by decide, by decide⟩ (fun h3 => ?_) (fun h3 => ?_)
      · skip
        refine j_iload_n hx 1 dX0_allCards_27 rfl ?_
        exact j_iret hx hq rfl (by decide) (by decide) dX0_allCards_28 ⟨v1, rfl, rfl, rfl, (by omega)⟩
      · skip
        refine j_iload_n hx 1 dX0_allCards_10 rfl ?_
        refine j_aload_n hx 0 dX0_allCards_11 rfl ?_
        refine j_iload_n hx 2 dX0_allCards_12 rfl ?_
        refine j_callV hx hG (c_X0_pileOf hst a v2) lk_RX0_47 ha (by decide) rfl rfl rfl rfl [.int (zI v2)] ⟨rfl, hG, hS0, ha, (by omega)⟩ rfl rfl ⟨by decide, by decide⟩ ⟨by decide, by decide⟩ (k2 := 0) (n2 := 0) rfl rfl (Nat.le_of_ble_eq_true rfl) dX0_allCards_13 (kRP (fun r4 q5 => ?_))
        have f6 := zf hS0 q5 (k := 1) rfl
        refine gN7_1 hx hG q5 kf_RX0_43 rfl dX0_allCards_16 ?_
        refine j_iadd hx (r := v1 + (s0 r4 1)) dX0_allCards_19 (by omega) ?_
        refine j_norm (fun v7 f8 f9 f10 => ?_)
        refine j_istore_n hx [(1, .int (zI v7)), (0, .ref a), (2, .int (zI v2))] dX0_allCards_20 (by decide) rfl ?_
        refine j_iinc hx 2 [(2, .int (zI (v2 + 1))), (1, .int (zI v7)), (0, .ref a)] dX0_allCards_21 rfl (by omega) (by decide) rfl ?_
        refine j_goto hx 4 dX0_allCards_24 rfl ?_
        exact j_sub [2, 1, 0] [(0, .ref a), (1, .int (zI v7)), (2, .int (zI (v2 + 1)))] rfl (ih_c4_1 v7 (v2 + 1) (by omega) (by omega) (by omega))
  exact j_sub [2, 1, 0] [(0, .ref a), (1, .int (zI 0)), (2, .int (zI 0))] rfl (c4_1 (2147483648 * 4) 0 0 (by omega) (by omega) (by omega))

set_option maxHeartbeats 4000000 in
set_option maxRecDepth 20000 in
theorem c_X0_isOut {E : zE} {l : Launch} (hst : l.stackTraces = false) (a : Nat) (x1 : Int) : Con E l yX0_isOut cX0_isOut 2 (some .boolean) { frames := 0, cells := 0, slots := 0, locals := 0 } (fun G s vs => vs = [.ref a, .int (zI x1)] ∧ zGK G ∧ zSK G s ∧ (gT G a = 1) ∧ ((-2147483648) ≤ x1 ∧ x1 ≤ 2147483647)) (fun G s _ => pI (fun r G2 s2 => G2 = G ∧ s2 = s ∧ (0 ≤ r ∧ r ≤ 1) ∧ ((r = 0 → 0 ≤ x1 ∧ x1 ≤ 2)))) := by
  refine Con.mk hst (by decide) (fun G s vs h => by rw [h.1]; exact Nat.le_of_ble_eq_true rfl) ?_
  rintro X G s0 vs ⟨rfl, hG, hS0, ha, hx1⟩ rfl hx hq
  show JJ X E 2 G s0 0 0 [(0, .ref a), (1, .int (zI x1))] 0 []
  refine j_iload_n hx 1 dX0_isOut_0 rfl ?_
  refine j_if_lt hx 12 dX0_isOut_1 rfl (by omega) (fun h1 => ?_) (fun h1 => ?_)
  · skip
    refine j_iconst hx dX0_isOut_12 ?_
    exact j_zret hx hq rfl (by decide) (by decide) dX0_isOut_13 (by omega) ⟨1, rfl, rfl, rfl, ⟨(by omega), (by omega)⟩⟩
  · skip
    refine j_iload_n hx 1 dX0_isOut_4 rfl ?_
    refine j_aload_n hx 0 dX0_isOut_5 rfl ?_
    have f2 := zf hS0 ha (k := 7) rfl
    refine g1_7 hx hG ha kf_RX0_50 rfl dX0_isOut_6 ?_
    refine j_icmp_lt hx 14 dX0_isOut_9 rfl (by omega) (by omega) (fun h3 => ?_) (fun h3 => ?_)
    · skip
      refine j_iload_n hx 1 dX0_isOut_14 rfl ?_
      refine j_if_ne hx 42 dX0_isOut_15 rfl (by omega) (fun h4 => ?_) (fun h4 => ?_)
      · skip
        refine j_iload_n hx 1 dX0_isOut_42 rfl ?_
        refine j_iconst hx dX0_isOut_43 ?_
        refine j_icmp_ne hx 73 dX0_isOut_44 rfl (by omega) ⟨by decide, by decide⟩ (fun h5 => ?_) (fun h5 => ?_)
        · skip
          refine j_aload_n hx 0 dX0_isOut_73 rfl ?_
          refine g1_2 hx hG ha kf_RX0_21 dX0_isOut_74 ?_
          have f6 := zf hS0 (zr (k := 2) (t2 := 7) hG ha rfl) (k := 1) rfl
          refine gN7_1 hx hG (zr (k := 2) (t2 := 7) hG ha rfl) kf_RX0_43 rfl dX0_isOut_77 ?_
          refine j_aload_n hx 0 dX0_isOut_80 rfl ?_
          refine g1_5 hx hG ha kf_RX0_30 dX0_isOut_81 ?_
          have f7 := zf hS0 (zr (k := 5) (t2 := 7) hG ha rfl) (k := 1) rfl
          refine gN7_1 hx hG (zr (k := 5) (t2 := 7) hG ha rfl) kf_RX0_43 rfl dX0_isOut_84 ?_
          refine j_iadd hx (r := (s0 (gP G a 2) 1) + (s0 (gP G a 5) 1)) dX0_isOut_87 (by omega) ?_
          refine j_if_ne hx 95 dX0_isOut_88 rfl (by omega) (fun h8 => ?_) (fun h8 => ?_)
          · skip
            refine j_iconst hx dX0_isOut_95 ?_
            exact j_zret hx hq rfl (by decide) (by decide) dX0_isOut_96 (by omega) ⟨0, rfl, rfl, rfl, ⟨(by omega), (by omega)⟩⟩
          · skip
            refine j_iconst hx dX0_isOut_91 ?_
            refine j_goto hx 96 dX0_isOut_92 rfl ?_
            exact j_zret hx hq rfl (by decide) (by decide) dX0_isOut_96 (by omega) ⟨1, rfl, rfl, rfl, ⟨(by omega), (by omega)⟩⟩
        · skip
          refine j_aload_n hx 0 dX0_isOut_47 rfl ?_
          refine g1_1 hx hG ha kf_RX0_18 dX0_isOut_48 ?_
          have f9 := zf hS0 (zr (k := 1) (t2 := 7) hG ha rfl) (k := 1) rfl
          refine gN7_1 hx hG (zr (k := 1) (t2 := 7) hG ha rfl) kf_RX0_43 rfl dX0_isOut_51 ?_
          refine j_aload_n hx 0 dX0_isOut_54 rfl ?_
          refine g1_4 hx hG ha kf_RX0_27 dX0_isOut_55 ?_
          have f10 := zf hS0 (zr (k := 4) (t2 := 7) hG ha rfl) (k := 1) rfl
          refine gN7_1 hx hG (zr (k := 4) (t2 := 7) hG ha rfl) kf_RX0_43 rfl dX0_isOut_58 ?_
          refine j_iadd hx (r := (s0 (gP G a 1) 1) + (s0 (gP G a 4) 1)) dX0_isOut_61 (by omega) ?_
          refine j_if_ne hx 69 dX0_isOut_62 rfl (by omega) (fun h11 => ?_) (fun h11 => ?_)
          · skip
            refine j_iconst hx dX0_isOut_69 ?_
            refine j_goto hx 96 dX0_isOut_70 rfl ?_
            exact j_zret hx hq rfl (by decide) (by decide) dX0_isOut_96 (by omega) ⟨0, rfl, rfl, rfl, ⟨(by omega), (by omega)⟩⟩
          · skip
            refine j_iconst hx dX0_isOut_65 ?_
            refine j_goto hx 96 dX0_isOut_66 rfl ?_
            exact j_zret hx hq rfl (by decide) (by decide) dX0_isOut_96 (by omega) ⟨1, rfl, rfl, rfl, ⟨(by omega), (by omega)⟩⟩
      · skip
        refine j_aload_n hx 0 dX0_isOut_18 rfl ?_
        refine g1_0 hx hG ha kf_RX0_12 dX0_isOut_19 ?_
        have f12 := zf hS0 (zr (k := 0) (t2 := 7) hG ha rfl) (k := 1) rfl
        refine gN7_1 hx hG (zr (k := 0) (t2 := 7) hG ha rfl) kf_RX0_43 rfl dX0_isOut_22 ?_
        refine j_aload_n hx 0 dX0_isOut_25 rfl ?_
        refine g1_3 hx hG ha kf_RX0_24 dX0_isOut_26 ?_
        have f13 := zf hS0 (zr (k := 3) (t2 := 7) hG ha rfl) (k := 1) rfl
        refine gN7_1 hx hG (zr (k := 3) (t2 := 7) hG ha rfl) kf_RX0_43 rfl dX0_isOut_29 ?_
        refine j_iadd hx (r := (s0 (gP G a 0) 1) + (s0 (gP G a 3) 1)) dX0_isOut_32 (by omega) ?_
        refine j_if_ne hx 40 dX0_isOut_33 rfl (by omega) (fun h14 => ?_) (fun h14 => ?_)
        · skip
          refine j_iconst hx dX0_isOut_40 ?_
          exact j_zret hx hq rfl (by decide) (by decide) dX0_isOut_41 (by omega) ⟨0, rfl, rfl, rfl, ⟨(by omega), (by omega)⟩⟩
        · skip
          refine j_iconst hx dX0_isOut_36 ?_
          refine j_goto hx 41 dX0_isOut_37 rfl ?_
          exact j_zret hx hq rfl (by decide) (by decide) dX0_isOut_41 (by omega) ⟨1, rfl, rfl, rfl, ⟨(by omega), (by omega)⟩⟩
    · skip
      refine j_iconst hx dX0_isOut_12 ?_
      exact j_zret hx hq rfl (by decide) (by decide) dX0_isOut_13 (by omega) ⟨1, rfl, rfl, rfl, ⟨(by omega), (by omega)⟩⟩

set_option maxHeartbeats 4000000 in
set_option maxRecDepth 20000 in
theorem c_X0_firstIn {E : zE} {l : Launch} (hst : l.stackTraces = false) (a : Nat) (x1 : Int) (x2 : Int) : Con E l yX0_firstIn cX0_firstIn 5 (some .int) { frames := 1, cells := 0, slots := 0, locals := 21 } (fun G s vs => vs = [.ref a, .int (zI x1), .int (zI x2)] ∧ zGK G ∧ zSK G s ∧ (gT G a = 1) ∧ ((-2147483648) ≤ x1 ∧ x1 ≤ 2147483647) ∧ ((-2147483648) ≤ x2 ∧ x2 ≤ 2147483647)) (fun G s _ => pI (fun r G2 s2 => G2 = G ∧ s2 = s ∧ ((-1) ≤ r ∧ r ≤ 2))) := by
  refine Con.mk hst (by decide) (fun G s vs h => by rw [h.1]; exact Nat.le_of_ble_eq_true rfl) ?_
  rintro X G s0 vs ⟨rfl, hG, hS0, ha, hx1, hx2⟩ rfl hx hq
  show JJ X E 5 G s0 0 0 [(0, .ref a), (1, .int (zI x1)), (2, .int (zI x2))] 0 []
  refine j_iload_n hx 1 dX0_firstIn_0 rfl ?_
  refine j_istore_n hx [(3, .int (zI x1)), (0, .ref a), (1, .int (zI x1)), (2, .int (zI x2))] dX0_firstIn_1 (by decide) rfl ?_
  refine j_iconst hx dX0_firstIn_2 ?_
  refine j_istore hx [(4, .int (zI 0)), (3, .int (zI x1)), (0, .ref a), (1, .int (zI x1)), (2, .int (zI x2))] dX0_firstIn_3 (by decide) rfl ?_
  have c5_1 : ∀ (m_c5_1 : Nat) (v1 : Int) (v2 : Int), 2147483648 - v2 < m_c5_1 → ((-2147483648) ≤ v1 ∧ v1 ≤ 2147483647) → (0 ≤ v2 ∧ v2 ≤ 3) → JJ X E 5 G s0 0 0 [(0, .ref a), (2, .int (zI x2)), (3, .int (zI v1)), (4, .int (zI v2))] 5 [] := by
    intro m_c5_1
    induction m_c5_1 with
    | zero => intro v1 v2 hm_c5_1 f2 f3; exfalso; omega
    | succ m_c5_1 ih_c5_1 => 
      intro v1 v2 hm_c5_1 f2 f3
      refine j_iload hx 3 dX0_firstIn_5 rfl ?_
      refine j_iload_n hx 1 dX0_firstIn_7 rfl ?_
      refine j_icmp_ge hx 55 dX0_firstIn_8 rfl (by omega) (by omega) (fun h3 => ?_) (fun h3 => ?_)
      · skip
        refine j_iconst hx dX0_firstIn_55 ?_
        exact j_iret hx hq rfl (by decide) (by decide) dX0_firstIn_56 ⟨(-1), rfl, rfl, rfl, (by omega)⟩
      · skip
        refine j_iload hx 3 dX0_firstIn_11 rfl ?_
        refine j_iconst hx dX0_firstIn_13 ?_
        refine j_icmp_ge hx 55 dX0_firstIn_14 rfl (by omega) ⟨by decide, by decide⟩ (fun h4 => ?_) (fun h4 => ?_)
        · skip
          refine j_iconst hx dX0_firstIn_55 ?_
          exact j_iret hx hq rfl (by decide) (by decide) dX0_firstIn_56 ⟨(-1), rfl, rfl, rfl, (by omega)⟩
        · skip
          refine j_iload_n hx 2 dX0_firstIn_17 rfl ?_
          refine j_aload_n hx 0 dX0_firstIn_18 rfl ?_
          have f5 := zf hS0 ha (k := 7) rfl
          refine g1_7 hx hG ha kf_RX0_50 rfl dX0_firstIn_19 ?_
          have c35_4 : ∀ (v6 : Int), ((-2147483648) ≤ v6 ∧ v6 ≤ 2147483647) → JJ X E 5 G s0 0 0 [(0, .ref a), (2, .int (zI x2)), (4, .int (zI v2))] 35 [.int (zI v6)] := by
            intro v6 f5
            refine j_istore_n hx [(3, .int (zI v6)), (0, .ref a), (2, .int (zI x2)), (4, .int (zI v2))] dX0_firstIn_35 (by decide) rfl ?_
            refine j_aload_n hx 1 dX0_firstIn_36 rfl ?_
            refine j_iload_n hx 0 dX0_firstIn_37 rfl ?_
            refine j_callV hx hG (c_X0_isOut hst a v6) lk_RX0_60 ha (by decide) rfl rfl rfl rfl [.int (zI v6)] ⟨rfl, hG, hS0, ha, (by omega)⟩ rfl rfl ⟨by decide, by decide⟩ ⟨by decide, by decide⟩ (k2 := 0) (n2 := 0) rfl rfl (Nat.le_of_ble_eq_true rfl) dX0_firstIn_38 (kIP (fun v7 q8 => ?_))
            refine j_if_ne hx 46 dX0_firstIn_41 rfl (by omega) (fun h9 => ?_) (fun h9 => ?_)
            · skip
              refine j_iincN hx 0 (fun v10 => [(3, .int (zI v10)), (0, .ref a), (2, .int (zI x2)), (4, .int (zI v2))]) dX0_firstIn_46 rfl (by decide) (fun _ => rfl) (fun v10 f11 f12 f13 => ?_)
              refine j_iinc hx 3 [(4, .int (zI (v2 + 1))), (3, .int (zI v10)), (0, .ref a), (2, .int (zI x2))] dX0_firstIn_49 rfl (by omega) (by decide) rfl ?_
              refine j_goto hx 5 dX0_firstIn_52 rfl ?_
              exact j_sub [2, 3, 1, 0] [(0, .ref a), (2, .int (zI x2)), (3, .int (zI v10)), (4, .int (zI (v2 + 1)))] rfl (ih_c5_1 v10 (v2 + 1) (by omega) (by omega) (by omega))
            · skip
              refine j_iload_n hx 0 dX0_firstIn_44 rfl ?_
              exact j_iret hx hq rfl (by decide) (by decide) dX0_firstIn_45 ⟨v6, rfl, rfl, rfl, (by omega)⟩
          refine j_icmp_lt hx 34 dX0_firstIn_22 rfl (by omega) (by omega) (fun h14 => ?_) (fun h14 => ?_)
          · skip
            refine j_iload_n hx 2 dX0_firstIn_34 rfl ?_
            exact j_sub [0, 1, 3] [(0, .ref a), (2, .int (zI x2)), (4, .int (zI v2))] rfl (c35_4 v1 (by omega))
          · skip
            refine j_iload_n hx 2 dX0_firstIn_25 rfl ?_
            refine j_aload_n hx 0 dX0_firstIn_26 rfl ?_
            refine g1_7 hx hG ha kf_RX0_50 rfl dX0_firstIn_27 ?_
            refine j_isub hx (r := v1 - (s0 a 7)) dX0_firstIn_30 (by omega) ?_
            refine j_goto hx 35 dX0_firstIn_31 rfl ?_
            exact j_sub [0, 1, 3] [(0, .ref a), (2, .int (zI x2)), (4, .int (zI v2))] rfl (c35_4 (v1 - (s0 a 7)) (by omega))
  exact j_sub [2, 4, 1, 0] [(0, .ref a), (2, .int (zI x2)), (3, .int (zI x1)), (4, .int (zI 0))] rfl (c5_1 (2147483648 * 4) x1 0 (by omega) (by omega) (by omega))

set_option maxHeartbeats 4000000 in
set_option maxRecDepth 20000 in
theorem c_X0_following {E : zE} {l : Launch} (hst : l.stackTraces = false) (a : Nat) (x1 : Int) : Con E l yX0_following cX0_following 2 (some .int) { frames := 2, cells := 0, slots := 0, locals := 45 } (fun G s vs => vs = [.ref a, .int (zI x1)] ∧ zGK G ∧ zSK G s ∧ (gT G a = 1) ∧ ((-2147483648) ≤ x1 ∧ x1 ≤ 2147483647)) (fun G s _ => pI (fun r G2 s2 => G2 = G ∧ s2 = s ∧ ((-1) ≤ r ∧ r ≤ 2))) := by
  refine Con.mk hst (by decide) (fun G s vs h => by rw [h.1]; exact Nat.le_of_ble_eq_true rfl) ?_
  rintro X G s0 vs ⟨rfl, hG, hS0, ha, hx1⟩ rfl hx hq
  show JJ X E 2 G s0 0 0 [(0, .ref a), (1, .int (zI x1))] 0 []
  refine j_aload_n hx 0 dX0_following_0 rfl ?_
  refine j_iload_n hx 1 dX0_following_1 rfl ?_
  refine j_iconst hx dX0_following_2 ?_
  refine j_iadd hx (r := x1 + 1) dX0_following_3 rfl ?_
  refine j_norm (fun v1 f2 f3 f4 => ?_)
  refine j_aload_n hx 0 dX0_following_4 rfl ?_
  have f5 := zf hS0 ha (k := 7) rfl
  refine g1_7 hx hG ha kf_RX0_50 rfl dX0_following_5 ?_
  refine j_iconst hx dX0_following_8 ?_
  refine j_isub hx (r := (s0 a 7) - 1) dX0_following_9 (by omega) ?_
  refine j_callV hx hG (c_X0_firstIn hst a v1 ((s0 a 7) - 1)) lk_RX0_64 ha (by decide) rfl rfl rfl rfl [.int (zI v1), .int (zI ((s0 a 7) - 1))] ⟨rfl, hG, hS0, ha, (by omega), (by omega)⟩ rfl rfl ⟨by decide, by decide⟩ ⟨by decide, by decide⟩ (k2 := 0) (n2 := 0) rfl rfl (Nat.le_of_ble_eq_true rfl) dX0_following_10 (kIP (fun v6 q7 => ?_))
  exact j_iret hx hq rfl (by decide) (by decide) dX0_following_13 ⟨v6, rfl, rfl, rfl, (by omega)⟩

set_option maxHeartbeats 4000000 in
set_option maxRecDepth 20000 in
theorem c_X0_remaining {E : zE} {l : Launch} (hst : l.stackTraces = false) (a : Nat) : Con E l yX0_remaining cX0_remaining 3 (some .int) { frames := 1, cells := 0, slots := 0, locals := 21 } (fun G s vs => vs = [.ref a] ∧ zGK G ∧ zSK G s ∧ (gT G a = 1)) (fun G s _ => pI (fun r G2 s2 => G2 = G ∧ s2 = s ∧ ((-2147483648) ≤ r ∧ r ≤ 2147483647))) := by
  refine Con.mk hst (by decide) (fun G s vs h => by rw [h.1]; exact Nat.le_of_ble_eq_true rfl) ?_
  rintro X G s0 vs ⟨rfl, hG, hS0, ha⟩ rfl hx hq
  show JJ X E 3 G s0 0 0 [(0, .ref a)] 0 []
  refine j_iconst hx dX0_remaining_0 ?_
  refine j_istore_n hx [(1, .int (zI 0)), (0, .ref a)] dX0_remaining_1 (by decide) rfl ?_
  refine j_iconst hx dX0_remaining_2 ?_
  refine j_istore_n hx [(2, .int (zI 0)), (1, .int (zI 0)), (0, .ref a)] dX0_remaining_3 (by decide) rfl ?_
  have c4_1 : ∀ (m_c4_1 : Nat) (v1 : Int) (v2 : Int), 2147483648 - v2 < m_c4_1 → ((-2147483648) ≤ v1 ∧ v1 ≤ 2147483647) → (0 ≤ v2 ∧ v2 ≤ 3) → JJ X E 3 G s0 0 0 [(0, .ref a), (1, .int (zI v1)), (2, .int (zI v2))] 4 [] := by
    intro m_c4_1
    induction m_c4_1 with
    | zero => intro v1 v2 hm_c4_1 f2 f3; exfalso; omega
    | succ m_c4_1 ih_c4_1 => 
      intro v1 v2 hm_c4_1 f2 f3
      refine j_iload_n hx 2 dX0_remaining_4 rfl ?_
      refine j_aload_n hx 0 dX0_remaining_5 rfl ?_
      have f3 := zf hS0 ha (k := 7) rfl
      refine g1_7 hx hG ha kf_RX0_50 rfl dX0_remaining_6 ?_
      refine j_icmp_ge hx 34 dX0_remaining_9 rfl (by omega) (by omega) (fun h4 => ?_) (fun h4 => ?_)
      · skip
        refine j_iload_n hx 1 dX0_remaining_34 rfl ?_
        exact j_iret hx hq rfl (by decide) (by decide) dX0_remaining_35 ⟨v1, rfl, rfl, rfl, (by omega)⟩
      · skip
        refine j_iload_n hx 1 dX0_remaining_12 rfl ?_
        refine j_aload_n hx 0 dX0_remaining_13 rfl ?_
        refine j_iload_n hx 2 dX0_remaining_14 rfl ?_
        refine j_callV hx hG (c_X0_isOut hst a v2) lk_RX0_60 ha (by decide) rfl rfl rfl rfl [.int (zI v2)] ⟨rfl, hG, hS0, ha, (by omega)⟩ rfl rfl ⟨by decide, by decide⟩ ⟨by decide, by decide⟩ (k2 := 0) (n2 := 0) rfl rfl (Nat.le_of_ble_eq_true rfl) dX0_remaining_15 (kIP (fun v5 q6 => ?_))
        have c26_4 : ∀ (v7 : Int), (0 ≤ v7 ∧ v7 ≤ 1) → JJ X E 3 G s0 0 0 [(0, .ref a), (2, .int (zI v2))] 26 [.int (zI v7), .int (zI v1)] := by
          intro v7 f5
          refine j_iadd hx (r := v1 + v7) dX0_remaining_26 rfl ?_
          refine j_norm (fun v8 f9 f10 f11 => ?_)
          refine j_istore_n hx [(1, .int (zI v8)), (0, .ref a), (2, .int (zI v2))] dX0_remaining_27 (by decide) rfl ?_
          refine j_iinc hx 2 [(2, .int (zI (v2 + 1))), (1, .int (zI v8)), (0, .ref a)] dX0_remaining_28 rfl (by omega) (by decide) rfl ?_
          refine j_goto hx 4 dX0_remaining_31 rfl ?_
          exact j_sub [2, 1, 0] [(0, .ref a), (1, .int (zI v8)), (2, .int (zI (v2 + 1)))] rfl (ih_c4_1 v8 (v2 + 1) (by omega) (by omega) (by omega))
        refine j_if_eq hx 25 dX0_remaining_18 rfl (by omega) (fun h12 => ?_) (fun h12 => ?_)
        · skip
          refine j_iconst hx dX0_remaining_25 ?_
          exact j_sub [0, 2] [(0, .ref a), (2, .int (zI v2))] rfl (c26_4 1 (by omega))
        · skip
          refine j_iconst hx dX0_remaining_21 ?_
          refine j_goto hx 26 dX0_remaining_22 rfl ?_
          exact j_sub [0, 2] [(0, .ref a), (2, .int (zI v2))] rfl (c26_4 0 (by omega))
  exact j_sub [2, 1, 0] [(0, .ref a), (1, .int (zI 0)), (2, .int (zI 0))] rfl (c4_1 (2147483648 * 4) 0 0 (by omega) (by omega) (by omega))

set_option maxHeartbeats 4000000 in
set_option maxRecDepth 20000 in
theorem c_X0_whose {E : zE} {l : Launch} (hst : l.stackTraces = false) (a : Nat) : Con E l yX0_whose cX0_whose 1 (some .int) { frames := 2, cells := 0, slots := 0, locals := 45 } (fun G s vs => vs = [.ref a] ∧ zGK G ∧ zSK G s ∧ (gT G a = 1)) (fun G s _ => pI (fun r G2 s2 => G2 = G ∧ s2 = s ∧ ((-1) ≤ r ∧ r ≤ 2))) := by
  refine Con.mk hst (by decide) (fun G s vs h => by rw [h.1]; exact Nat.le_of_ble_eq_true rfl) ?_
  rintro X G s0 vs ⟨rfl, hG, hS0, ha⟩ rfl hx hq
  show JJ X E 1 G s0 0 0 [(0, .ref a)] 0 []
  refine j_aload_n hx 0 dX0_whose_0 rfl ?_
  refine j_callV hx hG (c_X0_remaining hst a) lk_RX0_68 ha (by decide) rfl rfl rfl rfl [] ⟨rfl, hG, hS0, ha⟩ rfl rfl ⟨by decide, by decide⟩ ⟨by decide, by decide⟩ (k2 := 0) (n2 := 0) rfl rfl (Nat.le_of_ble_eq_true rfl) dX0_whose_1 (kIP (fun v1 q2 => ?_))
  refine j_iconst hx dX0_whose_4 ?_
  refine j_icmp_gt hx 12 dX0_whose_5 rfl (by omega) ⟨by decide, by decide⟩ (fun h3 => ?_) (fun h3 => ?_)
  · skip
    refine j_aload_n hx 0 dX0_whose_12 rfl ?_
    refine j_aload_n hx 0 dX0_whose_13 rfl ?_
    have f4 := zf hS0 ha (k := 8) rfl
    refine g1_8 hx hG ha kf_RX0_53 rfl dX0_whose_14 ?_
    refine j_aload_n hx 0 dX0_whose_17 rfl ?_
    have f5 := zf hS0 ha (k := 7) rfl
    refine g1_7 hx hG ha kf_RX0_50 rfl dX0_whose_18 ?_
    refine j_callV hx hG (c_X0_firstIn hst a ((s0 a 8)) ((s0 a 7))) lk_RX0_64 ha (by decide) rfl rfl rfl rfl [.int (zI ((s0 a 8))), .int (zI ((s0 a 7)))] ⟨rfl, hG, hS0, ha, (by omega), (by omega)⟩ rfl rfl ⟨by decide, by decide⟩ ⟨by decide, by decide⟩ (k2 := 0) (n2 := 0) rfl rfl (Nat.le_of_ble_eq_true rfl) dX0_whose_21 (kIP (fun v6 q7 => ?_))
    exact j_iret hx hq rfl (by decide) (by decide) dX0_whose_24 ⟨v6, rfl, rfl, rfl, (by omega)⟩
  · skip
    refine j_iconst hx dX0_whose_8 ?_
    refine j_goto hx 24 dX0_whose_9 rfl ?_
    exact j_iret hx hq rfl (by decide) (by decide) dX0_whose_24 ⟨(-1), rfl, rfl, rfl, (by omega)⟩

set_option maxHeartbeats 4000000 in
set_option maxRecDepth 20000 in
theorem c_X0_leftOne {E : zE} {l : Launch} (hst : l.stackTraces = false) (a : Nat) : Con E l yX0_leftOne cX0_leftOne 1 (some .int) { frames := 2, cells := 0, slots := 0, locals := 45 } (fun G s vs => vs = [.ref a] ∧ zGK G ∧ zSK G s ∧ (gT G a = 1)) (fun G s _ => pI (fun r G2 s2 => G2 = G ∧ s2 = s ∧ ((-1) ≤ r ∧ r ≤ 2))) := by
  refine Con.mk hst (by decide) (fun G s vs h => by rw [h.1]; exact Nat.le_of_ble_eq_true rfl) ?_
  rintro X G s0 vs ⟨rfl, hG, hS0, ha⟩ rfl hx hq
  show JJ X E 1 G s0 0 0 [(0, .ref a)] 0 []
  refine j_aload_n hx 0 dX0_leftOne_0 rfl ?_
  refine j_callV hx hG (c_X0_remaining hst a) lk_RX0_68 ha (by decide) rfl rfl rfl rfl [] ⟨rfl, hG, hS0, ha⟩ rfl rfl ⟨by decide, by decide⟩ ⟨by decide, by decide⟩ (k2 := 0) (n2 := 0) rfl rfl (Nat.le_of_ble_eq_true rfl) dX0_leftOne_1 (kIP (fun v1 q2 => ?_))
  refine j_iconst hx dX0_leftOne_4 ?_
  refine j_icmp_ne hx 20 dX0_leftOne_5 rfl (by omega) ⟨by decide, by decide⟩ (fun h3 => ?_) (fun h3 => ?_)
  · skip
    refine j_iconst hx dX0_leftOne_20 ?_
    exact j_iret hx hq rfl (by decide) (by decide) dX0_leftOne_21 ⟨(-1), rfl, rfl, rfl, (by omega)⟩
  · skip
    refine j_aload_n hx 0 dX0_leftOne_8 rfl ?_
    refine j_iconst hx dX0_leftOne_9 ?_
    refine j_aload_n hx 0 dX0_leftOne_10 rfl ?_
    have f4 := zf hS0 ha (k := 7) rfl
    refine g1_7 hx hG ha kf_RX0_50 rfl dX0_leftOne_11 ?_
    refine j_callV hx hG (c_X0_firstIn hst a 0 ((s0 a 7))) lk_RX0_64 ha (by decide) rfl rfl rfl rfl [.int (zI 0), .int (zI ((s0 a 7)))] ⟨rfl, hG, hS0, ha, (by omega), (by omega)⟩ rfl rfl ⟨by decide, by decide⟩ ⟨by decide, by decide⟩ (k2 := 0) (n2 := 0) rfl rfl (Nat.le_of_ble_eq_true rfl) dX0_leftOne_14 (kIP (fun v5 q6 => ?_))
    refine j_goto hx 21 dX0_leftOne_17 rfl ?_
    exact j_iret hx hq rfl (by decide) (by decide) dX0_leftOne_21 ⟨v5, rfl, rfl, rfl, (by omega)⟩

set_option maxHeartbeats 4000000 in
set_option maxRecDepth 20000 in
theorem c_X0_likeTopsIf {E : zE} {l : Launch} (hst : l.stackTraces = false) (a : Nat) (x1 : Int) (x2 : Int) : Con E l yX0_likeTopsIf cX0_likeTopsIf 6 (some .int) { frames := 1, cells := 0, slots := 0, locals := 20 } (fun G s vs => vs = [.ref a, .int (zI x1), .int (zI x2)] ∧ zGK G ∧ zSK G s ∧ (gT G a = 1) ∧ ((-2147483648) ≤ x1 ∧ x1 ≤ 2147483647) ∧ ((-2147483648) ≤ x2 ∧ x2 ≤ 2147483647)) (fun G s _ => pI (fun r G2 s2 => G2 = G ∧ s2 = s ∧ ((-2147483648) ≤ r ∧ r ≤ 2147483647))) := by
  refine Con.mk hst (by decide) (fun G s vs h => by rw [h.1]; exact Nat.le_of_ble_eq_true rfl) ?_
  rintro X G s0 vs ⟨rfl, hG, hS0, ha, hx1, hx2⟩ rfl hx hq
  show JJ X E 6 G s0 0 0 [(0, .ref a), (1, .int (zI x1)), (2, .int (zI x2))] 0 []
  refine j_iload_n hx 1 dX0_likeTopsIf_0 rfl ?_
  have c15_1 : ∀ (v1 : Int), ((-2147483648) ≤ v1 ∧ v1 ≤ 2147483647) → JJ X E 6 G s0 0 0 [(0, .ref a), (1, .int (zI x1)), (2, .int (zI x2))] 15 [.int (zI v1)] := by
    intro v1 f2
    refine j_istore_n hx [(3, .int (zI v1)), (0, .ref a), (1, .int (zI x1)), (2, .int (zI x2))] dX0_likeTopsIf_15 (by decide) rfl ?_
    refine j_iload_n hx 2 dX0_likeTopsIf_16 rfl ?_
    refine j_iconst hx dX0_likeTopsIf_17 ?_
    have c32_3 : ∀ (v2 : Int), ((-2147483648) ≤ v2 ∧ v2 ≤ 2147483647) → JJ X E 6 G s0 0 0 [(0, .ref a), (1, .int (zI x1)), (2, .int (zI x2)), (3, .int (zI v1))] 32 [.int (zI v2)] := by
      intro v2 f4
      refine j_istore hx [(4, .int (zI v2)), (0, .ref a), (1, .int (zI x1)), (2, .int (zI x2)), (3, .int (zI v1))] dX0_likeTopsIf_32 (by decide) rfl ?_
      refine j_iload_n hx 2 dX0_likeTopsIf_34 rfl ?_
      refine j_iconst hx dX0_likeTopsIf_35 ?_
      have c50_5 : ∀ (v3 : Int), ((-2147483648) ≤ v3 ∧ v3 ≤ 2147483647) → JJ X E 6 G s0 0 0 [(3, .int (zI v1)), (4, .int (zI v2))] 50 [.int (zI v3)] := by
        intro v3 f6
        refine j_istore hx [(5, .int (zI v3)), (3, .int (zI v1)), (4, .int (zI v2))] dX0_likeTopsIf_50 (by decide) rfl ?_
        refine j_iload_n hx 1 dX0_likeTopsIf_52 rfl ?_
        refine j_iconst hx dX0_likeTopsIf_53 ?_
        have c65_7 : JJ X E 6 G s0 0 0 [(3, .int (zI v1)), (4, .int (zI v2)), (5, .int (zI v3))] 65 [] := by
          refine j_iload_n hx 0 dX0_likeTopsIf_65 rfl ?_
          refine j_iconst hx dX0_likeTopsIf_66 ?_
          have c78_8 : JJ X E 6 G s0 0 0 [(4, .int (zI v2)), (5, .int (zI v3))] 78 [] := by
            refine j_iload hx 0 dX0_likeTopsIf_78 rfl ?_
            refine j_iconst hx dX0_likeTopsIf_80 ?_
            refine j_icmp_eq hx 96 dX0_likeTopsIf_81 rfl (by omega) ⟨by decide, by decide⟩ (fun h4 => ?_) (fun h4 => ?_)
            · skip
              refine j_iconst hx dX0_likeTopsIf_96 ?_
              exact j_iret hx hq rfl (by decide) (by decide) dX0_likeTopsIf_97 ⟨(-1), rfl, rfl, rfl, (by omega)⟩
            · skip
              refine j_iload hx 0 dX0_likeTopsIf_84 rfl ?_
              refine j_iload hx 1 dX0_likeTopsIf_86 rfl ?_
              refine j_icmp_ne hx 96 dX0_likeTopsIf_88 rfl (by omega) (by omega) (fun h5 => ?_) (fun h5 => ?_)
              · skip
                refine j_iconst hx dX0_likeTopsIf_96 ?_
                exact j_iret hx hq rfl (by decide) (by decide) dX0_likeTopsIf_97 ⟨(-1), rfl, rfl, rfl, (by omega)⟩
              · skip
                refine j_bipush hx dX0_likeTopsIf_91 rfl ?_
                refine j_goto hx 97 dX0_likeTopsIf_93 rfl ?_
                exact j_iret hx hq rfl (by decide) (by decide) dX0_likeTopsIf_97 ⟨12, rfl, rfl, rfl, (by omega)⟩
          refine j_icmp_eq hx 78 dX0_likeTopsIf_67 rfl (by omega) ⟨by decide, by decide⟩ (fun h6 => ?_) (fun h6 => ?_)
          · skip
            exact j_sub [1, 2] [(4, .int (zI v2)), (5, .int (zI v3))] rfl (c78_8  )
          · skip
            refine j_iload_n hx 0 dX0_likeTopsIf_70 rfl ?_
            refine j_iload hx 2 dX0_likeTopsIf_71 rfl ?_
            refine j_icmp_ne hx 78 dX0_likeTopsIf_73 rfl (by omega) (by omega) (fun h7 => ?_) (fun h7 => ?_)
            · skip
              exact j_sub [1, 2] [(4, .int (zI v2)), (5, .int (zI v3))] rfl (c78_8  )
            · skip
              refine j_iconst hx dX0_likeTopsIf_76 ?_
              exact j_iret hx hq rfl (by decide) (by decide) dX0_likeTopsIf_77 ⟨2, rfl, rfl, rfl, (by omega)⟩
        refine j_icmp_eq hx 65 dX0_likeTopsIf_54 rfl (by omega) ⟨by decide, by decide⟩ (fun h8 => ?_) (fun h8 => ?_)
        · skip
          exact j_sub [1, 2, 0] [(3, .int (zI v1)), (4, .int (zI v2)), (5, .int (zI v3))] rfl (c65_7  )
        · skip
          refine j_iload_n hx 1 dX0_likeTopsIf_57 rfl ?_
          refine j_iload hx 2 dX0_likeTopsIf_58 rfl ?_
          refine j_icmp_ne hx 65 dX0_likeTopsIf_60 rfl (by omega) (by omega) (fun h9 => ?_) (fun h9 => ?_)
          · skip
            exact j_sub [1, 2, 0] [(3, .int (zI v1)), (4, .int (zI v2)), (5, .int (zI v3))] rfl (c65_7  )
          · skip
            refine j_iconst hx dX0_likeTopsIf_63 ?_
            exact j_iret hx hq rfl (by decide) (by decide) dX0_likeTopsIf_64 ⟨1, rfl, rfl, rfl, (by omega)⟩
      refine j_icmp_ne hx 43 dX0_likeTopsIf_36 rfl (by omega) ⟨by decide, by decide⟩ (fun h10 => ?_) (fun h10 => ?_)
      · skip
        refine j_aload_n hx 1 dX0_likeTopsIf_43 rfl ?_
        refine g1_5 hx hG ha kf_RX0_30 dX0_likeTopsIf_44 ?_
        refine j_callV hx hG (c_X6_topKind hst (gP G a 5)) lk_RX0_75 (zr (k := 5) (t2 := 7) hG ha rfl) (by decide) rfl rfl rfl rfl [] ⟨rfl, hG, hS0, (zr (k := 5) (t2 := 7) hG ha rfl)⟩ rfl rfl ⟨by decide, by decide⟩ ⟨by decide, by decide⟩ (k2 := 0) (n2 := 0) rfl rfl (Nat.le_of_ble_eq_true rfl) dX0_likeTopsIf_47 (kIP (fun v11 q12 => ?_))
        exact j_sub [4, 0] [(3, .int (zI v1)), (4, .int (zI v2))] rfl (c50_5 v11 (by omega))
      · skip
        refine j_iload_n hx 3 dX0_likeTopsIf_39 rfl ?_
        refine j_goto hx 50 dX0_likeTopsIf_40 rfl ?_
        exact j_sub [4, 0] [(3, .int (zI v1)), (4, .int (zI v2))] rfl (c50_5 x2 (by omega))
    refine j_icmp_ne hx 25 dX0_likeTopsIf_18 rfl (by omega) ⟨by decide, by decide⟩ (fun h13 => ?_) (fun h13 => ?_)
    · skip
      refine j_aload_n hx 1 dX0_likeTopsIf_25 rfl ?_
      refine g1_4 hx hG ha kf_RX0_27 dX0_likeTopsIf_26 ?_
      refine j_callV hx hG (c_X6_topKind hst (gP G a 4)) lk_RX0_75 (zr (k := 4) (t2 := 7) hG ha rfl) (by decide) rfl rfl rfl rfl [] ⟨rfl, hG, hS0, (zr (k := 4) (t2 := 7) hG ha rfl)⟩ rfl rfl ⟨by decide, by decide⟩ ⟨by decide, by decide⟩ (k2 := 0) (n2 := 0) rfl rfl (Nat.le_of_ble_eq_true rfl) dX0_likeTopsIf_29 (kIP (fun v14 q15 => ?_))
      exact j_sub [1, 2, 3, 0] [(0, .ref a), (1, .int (zI x1)), (2, .int (zI x2)), (3, .int (zI v1))] rfl (c32_3 v14 (by omega))
    · skip
      refine j_iload_n hx 3 dX0_likeTopsIf_21 rfl ?_
      refine j_goto hx 32 dX0_likeTopsIf_22 rfl ?_
      exact j_sub [1, 2, 3, 0] [(0, .ref a), (1, .int (zI x1)), (2, .int (zI x2)), (3, .int (zI v1))] rfl (c32_3 x2 (by omega))
  refine j_if_ne hx 8 dX0_likeTopsIf_1 rfl (by omega) (fun h16 => ?_) (fun h16 => ?_)
  · skip
    refine j_aload_n hx 0 dX0_likeTopsIf_8 rfl ?_
    refine g1_3 hx hG ha kf_RX0_24 dX0_likeTopsIf_9 ?_
    refine j_callV hx hG (c_X6_topKind hst (gP G a 3)) lk_RX0_75 (zr (k := 3) (t2 := 7) hG ha rfl) (by decide) rfl rfl rfl rfl [] ⟨rfl, hG, hS0, (zr (k := 3) (t2 := 7) hG ha rfl)⟩ rfl rfl ⟨by decide, by decide⟩ ⟨by decide, by decide⟩ (k2 := 0) (n2 := 0) rfl rfl (Nat.le_of_ble_eq_true rfl) dX0_likeTopsIf_12 (kIP (fun v17 q18 => ?_))
    exact j_sub [0, 1, 2] [(0, .ref a), (1, .int (zI x1)), (2, .int (zI x2))] rfl (c15_1 v17 (by omega))
  · skip
    refine j_iload_n hx 2 dX0_likeTopsIf_4 rfl ?_
    refine j_goto hx 15 dX0_likeTopsIf_5 rfl ?_
    exact j_sub [0, 1, 2] [(0, .ref a), (1, .int (zI x1)), (2, .int (zI x2))] rfl (c15_1 x2 (by omega))

set_option maxHeartbeats 4000000 in
set_option maxRecDepth 20000 in
theorem c_X0_likeTops {E : zE} {l : Launch} (hst : l.stackTraces = false) (a : Nat) : Con E l yX0_likeTops cX0_likeTops 1 (some .int) { frames := 2, cells := 0, slots := 0, locals := 45 } (fun G s vs => vs = [.ref a] ∧ zGK G ∧ zSK G s ∧ (gT G a = 1)) (fun G s _ => pI (fun r G2 s2 => G2 = G ∧ s2 = s ∧ ((-2147483648) ≤ r ∧ r ≤ 2147483647))) := by
  refine Con.mk hst (by decide) (fun G s vs h => by rw [h.1]; exact Nat.le_of_ble_eq_true rfl) ?_
  rintro X G s0 vs ⟨rfl, hG, hS0, ha⟩ rfl hx hq
  show JJ X E 1 G s0 0 0 [(0, .ref a)] 0 []
  refine j_aload_n hx 0 dX0_likeTops_0 rfl ?_
  refine j_iconst hx dX0_likeTops_1 ?_
  refine j_iconst hx dX0_likeTops_2 ?_
  refine j_callV hx hG (c_X0_likeTopsIf hst a (-1) (-1)) lk_RX0_72 ha (by decide) rfl rfl rfl rfl [.int (zI (-1)), .int (zI (-1))] ⟨rfl, hG, hS0, ha, (by omega), (by omega)⟩ rfl rfl ⟨by decide, by decide⟩ ⟨by decide, by decide⟩ (k2 := 0) (n2 := 0) rfl rfl (Nat.le_of_ble_eq_true rfl) dX0_likeTops_3 (kIP (fun v1 q2 => ?_))
  exact j_iret hx hq rfl (by decide) (by decide) dX0_likeTops_6 ⟨v1, rfl, rfl, rfl, (by omega)⟩

set_option maxHeartbeats 4000000 in
set_option maxRecDepth 20000 in
theorem c_X0_isOtherTop {E : zE} {l : Launch} (hst : l.stackTraces = false) (a : Nat) (x1 : Int) (x2 : Int) : Con E l yX0_isOtherTop cX0_isOtherTop 4 (some .boolean) { frames := 1, cells := 0, slots := 0, locals := 21 } (fun G s vs => vs = [.ref a, .int (zI x1), .int (zI x2)] ∧ zGK G ∧ zSK G s ∧ (gT G a = 1) ∧ ((-2147483648) ≤ x1 ∧ x1 ≤ 2147483647) ∧ ((-2147483648) ≤ x2 ∧ x2 ≤ 2147483647)) (fun G s _ => pI (fun r G2 s2 => G2 = G ∧ s2 = s ∧ (0 ≤ r ∧ r ≤ 1))) := by
  refine Con.mk hst (by decide) (fun G s vs h => by rw [h.1]; exact Nat.le_of_ble_eq_true rfl) ?_
  rintro X G s0 vs ⟨rfl, hG, hS0, ha, hx1, hx2⟩ rfl hx hq
  show JJ X E 4 G s0 0 0 [(0, .ref a), (1, .int (zI x1)), (2, .int (zI x2))] 0 []
  refine j_iconst hx dX0_isOtherTop_0 ?_
  refine j_istore_n hx [(3, .int (zI 0)), (0, .ref a), (1, .int (zI x1)), (2, .int (zI x2))] dX0_isOtherTop_1 (by decide) rfl ?_
  have c2_1 : ∀ (m_c2_1 : Nat) (v1 : Int), 2147483648 - v1 < m_c2_1 → (0 ≤ v1 ∧ v1 ≤ 3) → JJ X E 4 G s0 0 0 [(0, .ref a), (1, .int (zI x1)), (2, .int (zI x2)), (3, .int (zI v1))] 2 [] := by
    intro m_c2_1
    induction m_c2_1 with
    | zero => intro v1 hm_c2_1 f2; exfalso; omega
    | succ m_c2_1 ih_c2_1 => 
      intro v1 hm_c2_1 f2
      refine j_iload_n hx 3 dX0_isOtherTop_2 rfl ?_
      refine j_aload_n hx 0 dX0_isOtherTop_3 rfl ?_
      have f2 := zf hS0 ha (k := 7) rfl
      refine g1_7 hx hG ha kf_RX0_50 rfl dX0_isOtherTop_4 ?_
      refine j_icmp_ge hx 40 dX0_isOtherTop_7 rfl (by omega) (by omega) (fun h3 => ?_) (fun h3 => ?_)
      · skip
        refine j_iconst hx dX0_isOtherTop_40 ?_
        exact j_zret hx hq rfl (by decide) (by decide) dX0_isOtherTop_41 (by omega) ⟨0, rfl, rfl, rfl, (by omega)⟩
      · skip
        refine j_iload_n hx 3 dX0_isOtherTop_10 rfl ?_
        refine j_iload_n hx 1 dX0_isOtherTop_11 rfl ?_
        have c34_3 : JJ X E 4 G s0 0 0 [(0, .ref a), (1, .int (zI x1)), (2, .int (zI x2)), (3, .int (zI v1))] 34 [] := by
          refine j_iinc hx 3 [(3, .int (zI (v1 + 1))), (0, .ref a), (1, .int (zI x1)), (2, .int (zI x2))] dX0_isOtherTop_34 rfl (by omega) (by decide) rfl ?_
          refine j_goto hx 2 dX0_isOtherTop_37 rfl ?_
          exact j_sub [1, 2, 3, 0] [(0, .ref a), (1, .int (zI x1)), (2, .int (zI x2)), (3, .int (zI (v1 + 1)))] rfl (ih_c2_1 (v1 + 1) (by omega) (by omega))
        refine j_icmp_eq hx 34 dX0_isOtherTop_12 rfl (by omega) (by omega) (fun h4 => ?_) (fun h4 => ?_)
        · skip
          exact j_sub [0, 1, 2, 3] [(0, .ref a), (1, .int (zI x1)), (2, .int (zI x2)), (3, .int (zI v1))] rfl (c34_3  )
        · skip
          refine j_iload_n hx 2 dX0_isOtherTop_15 rfl ?_
          refine j_iconst hx dX0_isOtherTop_16 ?_
          refine j_icmp_eq hx 34 dX0_isOtherTop_17 rfl (by omega) ⟨by decide, by decide⟩ (fun h5 => ?_) (fun h5 => ?_)
          · skip
            exact j_sub [0, 1, 2, 3] [(0, .ref a), (1, .int (zI x1)), (2, .int (zI x2)), (3, .int (zI v1))] rfl (c34_3  )
          · skip
            refine j_aload_n hx 0 dX0_isOtherTop_20 rfl ?_
            refine j_iload_n hx 3 dX0_isOtherTop_21 rfl ?_
            refine j_callV hx hG (c_X0_heapOf hst a v1) lk_RX0_40 ha (by decide) rfl rfl rfl rfl [.int (zI v1)] ⟨rfl, hG, hS0, ha, (by omega)⟩ rfl rfl ⟨by decide, by decide⟩ ⟨by decide, by decide⟩ (k2 := 0) (n2 := 0) rfl rfl (Nat.le_of_ble_eq_true rfl) dX0_isOtherTop_22 (kRP (fun r6 q7 => ?_))
            refine j_callV hx hG (c_X6_topKind hst r6) lk_RX0_75 q7 (by decide) rfl rfl rfl rfl [] ⟨rfl, hG, hS0, q7⟩ rfl rfl ⟨by decide, by decide⟩ ⟨by decide, by decide⟩ (k2 := 0) (n2 := 0) rfl rfl (Nat.le_of_ble_eq_true rfl) dX0_isOtherTop_25 (kIP (fun v8 q9 => ?_))
            refine j_iload_n hx 2 dX0_isOtherTop_28 rfl ?_
            refine j_icmp_ne hx 34 dX0_isOtherTop_29 rfl (by omega) (by omega) (fun h10 => ?_) (fun h10 => ?_)
            · skip
              exact j_sub [0, 1, 2, 3] [(0, .ref a), (1, .int (zI x1)), (2, .int (zI x2)), (3, .int (zI v1))] rfl (c34_3  )
            · skip
              refine j_iconst hx dX0_isOtherTop_32 ?_
              exact j_zret hx hq rfl (by decide) (by decide) dX0_isOtherTop_33 (by omega) ⟨1, rfl, rfl, rfl, (by omega)⟩
  exact j_sub [1, 2, 3, 0] [(0, .ref a), (1, .int (zI x1)), (2, .int (zI x2)), (3, .int (zI 0))] rfl (c2_1 (2147483648 * 4) 0 (by omega) (by omega))

set_option maxHeartbeats 4000000 in
set_option maxRecDepth 20000 in
theorem c_X0_twins {E : zE} {l : Launch} (hst : l.stackTraces = false) (a : Nat) : Con E l yX0_twins cX0_twins 5 (some .int) { frames := 1, cells := 0, slots := 0, locals := 20 } (fun G s vs => vs = [.ref a] ∧ zGK G ∧ zSK G s ∧ (gT G a = 1)) (fun G s _ => pI (fun r G2 s2 => G2 = G ∧ s2 = s ∧ ((-2147483648) ≤ r ∧ r ≤ 2147483647))) := by
  refine Con.mk hst (by decide) (fun G s vs h => by rw [h.1]; exact Nat.le_of_ble_eq_true rfl) ?_
  rintro X G s0 vs ⟨rfl, hG, hS0, ha⟩ rfl hx hq
  show JJ X E 5 G s0 0 0 [(0, .ref a)] 0 []
  refine j_aload_n hx 0 dX0_twins_0 rfl ?_
  refine g1_3 hx hG ha kf_RX0_24 dX0_twins_1 ?_
  refine j_callV hx hG (c_X6_topKind hst (gP G a 3)) lk_RX0_75 (zr (k := 3) (t2 := 7) hG ha rfl) (by decide) rfl rfl rfl rfl [] ⟨rfl, hG, hS0, (zr (k := 3) (t2 := 7) hG ha rfl)⟩ rfl rfl ⟨by decide, by decide⟩ ⟨by decide, by decide⟩ (k2 := 0) (n2 := 0) rfl rfl (Nat.le_of_ble_eq_true rfl) dX0_twins_4 (kIP (fun v1 q2 => ?_))
  refine j_istore_n hx [(1, .int (zI v1)), (0, .ref a)] dX0_twins_7 (by decide) rfl ?_
  refine j_aload_n hx 1 dX0_twins_8 rfl ?_
  refine g1_4 hx hG ha kf_RX0_27 dX0_twins_9 ?_
  refine j_callV hx hG (c_X6_topKind hst (gP G a 4)) lk_RX0_75 (zr (k := 4) (t2 := 7) hG ha rfl) (by decide) rfl rfl rfl rfl [] ⟨rfl, hG, hS0, (zr (k := 4) (t2 := 7) hG ha rfl)⟩ rfl rfl ⟨by decide, by decide⟩ ⟨by decide, by decide⟩ (k2 := 0) (n2 := 0) rfl rfl (Nat.le_of_ble_eq_true rfl) dX0_twins_12 (kIP (fun v3 q4 => ?_))
  refine j_istore_n hx [(2, .int (zI v3)), (1, .int (zI v1)), (0, .ref a)] dX0_twins_15 (by decide) rfl ?_
  refine j_aload_n hx 2 dX0_twins_16 rfl ?_
  refine g1_5 hx hG ha kf_RX0_30 dX0_twins_17 ?_
  refine j_callV hx hG (c_X6_topKind hst (gP G a 5)) lk_RX0_75 (zr (k := 5) (t2 := 7) hG ha rfl) (by decide) rfl rfl rfl rfl [] ⟨rfl, hG, hS0, (zr (k := 5) (t2 := 7) hG ha rfl)⟩ rfl rfl ⟨by decide, by decide⟩ ⟨by decide, by decide⟩ (k2 := 0) (n2 := 0) rfl rfl (Nat.le_of_ble_eq_true rfl) dX0_twins_20 (kIP (fun v5 q6 => ?_))
  refine j_istore_n hx [(3, .int (zI v5)), (2, .int (zI v3)), (1, .int (zI v1)), (0, .ref a)] dX0_twins_23 (by decide) rfl ?_
  refine j_iload_n hx 2 dX0_twins_24 rfl ?_
  refine j_iconst hx dX0_twins_25 ?_
  have c39_1 : ∀ (v7 : Int), (0 ≤ v7 ∧ v7 ≤ 3) → JJ X E 5 G s0 0 0 [(1, .int (zI v1)), (2, .int (zI v3)), (3, .int (zI v5))] 39 [.int (zI v7)] := by
    intro v7 f2
    refine j_istore hx [(4, .int (zI v7)), (1, .int (zI v1)), (2, .int (zI v3)), (3, .int (zI v5))] dX0_twins_39 (by decide) rfl ?_
    refine j_iload hx 0 dX0_twins_41 rfl ?_
    refine j_iload_n hx 1 dX0_twins_43 rfl ?_
    refine j_iconst hx dX0_twins_44 ?_
    have c58_3 : ∀ (v8 : Int), (0 ≤ v8 ∧ v8 ≤ 5) → JJ X E 5 G s0 0 0 [(2, .int (zI v3)), (3, .int (zI v5))] 58 [.int (zI v8), .int (zI v7)] := by
      intro v8 f4
      refine j_ior hx dX0_twins_58 (fun v9 f10 f11 => ?_)
      refine j_istore hx [(4, .int (zI v9)), (2, .int (zI v3)), (3, .int (zI v5))] dX0_twins_59 (by decide) rfl ?_
      refine j_iload_n hx 1 dX0_twins_61 rfl ?_
      refine j_iconst hx dX0_twins_62 ?_
      refine j_icmp_eq hx 79 dX0_twins_63 rfl (by omega) ⟨by decide, by decide⟩ (fun h12 => ?_) (fun h12 => ?_)
      · skip
        refine j_iload hx 0 dX0_twins_79 rfl ?_
        exact j_iret hx hq rfl (by decide) (by decide) dX0_twins_81 ⟨v9, rfl, rfl, rfl, (by omega)⟩
      · skip
        refine j_iload_n hx 1 dX0_twins_66 rfl ?_
        refine j_iload_n hx 2 dX0_twins_67 rfl ?_
        refine j_icmp_ne hx 79 dX0_twins_68 rfl (by omega) (by omega) (fun h13 => ?_) (fun h13 => ?_)
        · skip
          refine j_iload hx 0 dX0_twins_79 rfl ?_
          exact j_iret hx hq rfl (by decide) (by decide) dX0_twins_81 ⟨v9, rfl, rfl, rfl, (by omega)⟩
        · skip
          refine j_iload hx 0 dX0_twins_71 rfl ?_
          refine j_bipush hx dX0_twins_73 rfl ?_
          refine j_ior hx dX0_twins_75 (fun v14 f15 f16 => ?_)
          refine j_goto hx 81 dX0_twins_76 rfl ?_
          exact j_iret hx hq rfl (by decide) (by decide) dX0_twins_81 ⟨v14, rfl, rfl, rfl, (by omega)⟩
    have c57_5 : JJ X E 5 G s0 0 0 [(2, .int (zI v3)), (3, .int (zI v5))] 57 [.int (zI v7)] := by
      refine j_iconst hx dX0_twins_57 ?_
      exact j_sub [0, 1] [(2, .int (zI v3)), (3, .int (zI v5))] rfl (c58_3 0 (by omega))
    refine j_icmp_eq hx 57 dX0_twins_45 rfl (by omega) ⟨by decide, by decide⟩ (fun h17 => ?_) (fun h17 => ?_)
    · skip
      exact j_sub [2, 3] [(2, .int (zI v3)), (3, .int (zI v5))] rfl (c57_5  )
    · skip
      refine j_iload_n hx 1 dX0_twins_48 rfl ?_
      refine j_iload_n hx 3 dX0_twins_49 rfl ?_
      refine j_icmp_ne hx 57 dX0_twins_50 rfl (by omega) (by omega) (fun h18 => ?_) (fun h18 => ?_)
      · skip
        exact j_sub [2, 3] [(2, .int (zI v3)), (3, .int (zI v5))] rfl (c57_5  )
      · skip
        refine j_iconst hx dX0_twins_53 ?_
        refine j_goto hx 58 dX0_twins_54 rfl ?_
        exact j_sub [2, 3] [(2, .int (zI v3)), (3, .int (zI v5))] rfl (c58_3 5 (by omega))
  have c38_6 : JJ X E 5 G s0 0 0 [(1, .int (zI v1)), (2, .int (zI v3)), (3, .int (zI v5))] 38 [] := by
    refine j_iconst hx dX0_twins_38 ?_
    exact j_sub [0, 1, 2] [(1, .int (zI v1)), (2, .int (zI v3)), (3, .int (zI v5))] rfl (c39_1 0 (by omega))
  refine j_icmp_eq hx 38 dX0_twins_26 rfl (by omega) ⟨by decide, by decide⟩ (fun h19 => ?_) (fun h19 => ?_)
  · skip
    exact j_sub [2, 1, 0] [(1, .int (zI v1)), (2, .int (zI v3)), (3, .int (zI v5))] rfl (c38_6  )
  · skip
    refine j_iload_n hx 2 dX0_twins_29 rfl ?_
    refine j_iload_n hx 1 dX0_twins_30 rfl ?_
    refine j_icmp_ne hx 38 dX0_twins_31 rfl (by omega) (by omega) (fun h20 => ?_) (fun h20 => ?_)
    · skip
      exact j_sub [2, 1, 0] [(1, .int (zI v1)), (2, .int (zI v3)), (3, .int (zI v5))] rfl (c38_6  )
    · skip
      refine j_iconst hx dX0_twins_34 ?_
      refine j_goto hx 39 dX0_twins_35 rfl ?_
      exact j_sub [2, 1, 0] [(1, .int (zI v1)), (2, .int (zI v3)), (3, .int (zI v5))] rfl (c39_1 3 (by omega))

set_option maxHeartbeats 4000000 in
set_option maxRecDepth 20000 in
theorem c_X0_firstHasLain {E : zE} {l : Launch} (hst : l.stackTraces = false) (a : Nat) (x1 : Int) : Con E l yX0_firstHasLain cX0_firstHasLain 3 (some .boolean) { frames := 1, cells := 0, slots := 0, locals := 21 } (fun G s vs => vs = [.ref a, .int (zI x1)] ∧ zGK G ∧ zSK G s ∧ (gT G a = 1) ∧ ((-2147483648) ≤ x1 ∧ x1 ≤ 2147483647)) (fun G s _ => pI (fun r G2 s2 => G2 = G ∧ s2 = s ∧ (0 ≤ r ∧ r ≤ 1))) := by
  refine Con.mk hst (by decide) (fun G s vs h => by rw [h.1]; exact Nat.le_of_ble_eq_true rfl) ?_
  rintro X G s0 vs ⟨rfl, hG, hS0, ha, hx1⟩ rfl hx hq
  show JJ X E 3 G s0 0 0 [(0, .ref a), (1, .int (zI x1))] 0 []
  refine j_aload_n hx 0 dX0_firstHasLain_0 rfl ?_
  refine j_iload_n hx 1 dX0_firstHasLain_1 rfl ?_
  refine j_callV hx hG (c_X0_rowOf hst a x1) lk_RX0_36 ha (by decide) rfl rfl rfl rfl [.int (zI x1)] ⟨rfl, hG, hS0, ha, (by omega)⟩ rfl rfl ⟨by decide, by decide⟩ ⟨by decide, by decide⟩ (k2 := 0) (n2 := 0) rfl rfl (Nat.le_of_ble_eq_true rfl) dX0_firstHasLain_2 (kRP (fun r1 q2 => ?_))
  refine j_iconst hx dX0_firstHasLain_5 ?_
  refine j_callV hx hG (c_X6_cardAt hst r1 0) lk_RX0_78 q2 (by decide) rfl rfl rfl rfl [.int (zI 0)] ⟨rfl, hG, hS0, q2, (by omega)⟩ rfl rfl ⟨by decide, by decide⟩ ⟨by decide, by decide⟩ (k2 := 0) (n2 := 0) rfl rfl (Nat.le_of_ble_eq_true rfl) dX0_firstHasLain_6 (kIP (fun v3 q4 => ?_))
  refine j_istore_n hx [(2, .int (zI v3)), (0, .ref a), (1, .int (zI x1))] dX0_firstHasLain_9 (by decide) rfl ?_
  refine j_iload_n hx 0 dX0_firstHasLain_10 rfl ?_
  refine j_iconst hx dX0_firstHasLain_11 ?_
  refine j_icmp_eq hx 26 dX0_firstHasLain_12 rfl (by omega) ⟨by decide, by decide⟩ (fun h5 => ?_) (fun h5 => ?_)
  · skip
    refine j_iconst hx dX0_firstHasLain_26 ?_
    exact j_zret hx hq rfl (by decide) (by decide) dX0_firstHasLain_27 (by omega) ⟨0, rfl, rfl, rfl, (by omega)⟩
  · skip
    refine j_iload_n hx 0 dX0_firstHasLain_15 rfl ?_
    refine j_iconst hx dX0_firstHasLain_16 ?_
    refine j_iand hx dX0_firstHasLain_17 (by omega) ⟨by decide, by decide⟩ (fun v6 f7 f8 f9 f10 _ => ?_)
    refine j_iconst hx dX0_firstHasLain_18 ?_
    refine j_icmp_ne hx 26 dX0_firstHasLain_19 rfl (by omega) ⟨by decide, by decide⟩ (fun h12 => ?_) (fun h12 => ?_)
    · skip
      refine j_iconst hx dX0_firstHasLain_26 ?_
      exact j_zret hx hq rfl (by decide) (by decide) dX0_firstHasLain_27 (by omega) ⟨0, rfl, rfl, rfl, (by omega)⟩
    · skip
      refine j_iconst hx dX0_firstHasLain_22 ?_
      refine j_goto hx 27 dX0_firstHasLain_23 rfl ?_
      exact j_zret hx hq rfl (by decide) (by decide) dX0_firstHasLain_27 (by omega) ⟨1, rfl, rfl, rfl, (by omega)⟩

set_option maxHeartbeats 4000000 in
set_option maxRecDepth 20000 in
theorem c_X0_turnOver {E : zE} {l : Launch} (hst : l.stackTraces = false) (a : Nat) (x1 : Int) : Con E l yX0_turnOver cX0_turnOver 2 none { frames := 2, cells := 0, slots := 0, locals := 43 } (fun G s vs => vs = [.ref a, .int (zI x1)] ∧ zGK G ∧ zSK G s ∧ (gT G a = 1) ∧ ((-2147483648) ≤ x1 ∧ x1 ≤ 2147483647)) (fun G s _ => pV (fun G2 s2 => G2 = G ∧ zSK G s2 ∧ zFr [7, 41] G s s2 ∧ True)) := by
  refine Con.mk hst (by decide) (fun G s vs h => by rw [h.1]; exact Nat.le_of_ble_eq_true rfl) ?_
  rintro X G s0 vs ⟨rfl, hG, hS0, ha, hx1⟩ rfl hx hq
  show JJ X E 2 G s0 0 0 [(0, .ref a), (1, .int (zI x1))] 0 []
  refine j_aload_n hx 0 dX0_turnOver_0 rfl ?_
  refine j_iload_n hx 1 dX0_turnOver_1 rfl ?_
  refine j_callV hx hG (c_X0_rowOf hst a x1) lk_RX0_36 ha (by decide) rfl rfl rfl rfl [.int (zI x1)] ⟨rfl, hG, hS0, ha, (by omega)⟩ rfl rfl ⟨by decide, by decide⟩ ⟨by decide, by decide⟩ (k2 := 0) (n2 := 0) rfl rfl (Nat.le_of_ble_eq_true rfl) dX0_turnOver_2 (kRP (fun r1 q2 => ?_))
  have f3 := zf hS0 q2 (k := 1) rfl
  refine gN7_1 hx hG q2 kf_RX0_43 rfl dX0_turnOver_5 ?_
  refine j_if_ne hx 24 dX0_turnOver_8 rfl (by omega) (fun h4 => ?_) (fun h4 => ?_)
  · skip
    exact j_vret hx hq rfl (by decide) (by decide) dX0_turnOver_24 ⟨rfl, rfl, hS0, zFr_rf, trivial⟩
  · skip
    refine j_aload_n hx 0 dX0_turnOver_11 rfl ?_
    refine j_iload_n hx 1 dX0_turnOver_12 rfl ?_
    refine j_callV hx hG (c_X0_rowOf hst a x1) lk_RX0_36 ha (by decide) rfl rfl rfl rfl [.int (zI x1)] ⟨rfl, hG, hS0, ha, (by omega)⟩ rfl rfl ⟨by decide, by decide⟩ ⟨by decide, by decide⟩ (k2 := 0) (n2 := 0) rfl rfl (Nat.le_of_ble_eq_true rfl) dX0_turnOver_13 (kRP (fun r5 q6 => ?_))
    refine j_aload_n hx 0 dX0_turnOver_16 rfl ?_
    refine j_iload_n hx 1 dX0_turnOver_17 rfl ?_
    refine j_callV hx hG (c_X0_heapOf hst a x1) lk_RX0_40 ha (by decide) rfl rfl rfl rfl [.int (zI x1)] ⟨rfl, hG, hS0, ha, (by omega)⟩ rfl rfl ⟨by decide, by decide⟩ ⟨by decide, by decide⟩ (k2 := 0) (n2 := 0) rfl rfl (Nat.le_of_ble_eq_true rfl) dX0_turnOver_18 (kRP (fun r7 q8 => ?_))
    refine j_callV hx hG (c_X6_takeAll hst r5 r7) lk_RX0_82 q6 (by decide) rfl rfl rfl rfl [.ref r7] ⟨rfl, hG, hS0, q6, q8⟩ rfl rfl ⟨by decide, by decide⟩ ⟨by decide, by decide⟩ (k2 := 0) (n2 := 0) rfl rfl (Nat.le_of_ble_eq_true rfl) dX0_turnOver_21 (kVM (fun s1 hS_s1 hF_s1 q10 => ?_))
    exact j_vret hx hq rfl (by decide) (by decide) dX0_turnOver_24 ⟨rfl, rfl, hS_s1, (zFr_t zFr_rf hF_s1 (by decide)), trivial⟩

set_option maxHeartbeats 4000000 in
set_option maxRecDepth 20000 in
theorem c_X0_lay {E : zE} {l : Launch} (hst : l.stackTraces = false) (a : Nat) (x1 : Int) : Con E l yX0_lay cX0_lay 3 (some .int) { frames := 1, cells := 0, slots := 0, locals := 22 } (fun G s vs => vs = [.ref a, .int (zI x1)] ∧ zGK G ∧ zSK G s ∧ (gT G a = 1) ∧ (0 ≤ x1 ∧ x1 ≤ 2)) (fun G s _ => pI (fun r G2 s2 => G2 = G ∧ zSK G s2 ∧ zFr [1, 7, 41] G s s2 ∧ ((-2147483648) ≤ r ∧ r ≤ 2147483647))) := by
  refine Con.mk hst (by decide) (fun G s vs h => by rw [h.1]; exact Nat.le_of_ble_eq_true rfl) ?_
  rintro X G s0 vs ⟨rfl, hG, hS0, ha, hx1⟩ rfl hx hq
  show JJ X E 3 G s0 0 0 [(0, .ref a), (1, .int (zI x1))] 0 []
  refine j_aload_n hx 0 dX0_lay_0 rfl ?_
  refine j_iload_n hx 1 dX0_lay_1 rfl ?_
  refine j_callV hx hG (c_X0_rowOf hst a x1) lk_RX0_36 ha (by decide) rfl rfl rfl rfl [.int (zI x1)] ⟨rfl, hG, hS0, ha, (by omega)⟩ rfl rfl ⟨by decide, by decide⟩ ⟨by decide, by decide⟩ (k2 := 0) (n2 := 0) rfl rfl (Nat.le_of_ble_eq_true rfl) dX0_lay_2 (kRP (fun r1 q2 => ?_))
  refine j_callV hx hG (c_X6_takeFirst hst r1) lk_RX0_85 q2 (by decide) rfl rfl rfl rfl [] ⟨rfl, hG, hS0, q2⟩ rfl rfl ⟨by decide, by decide⟩ ⟨by decide, by decide⟩ (k2 := 0) (n2 := 0) rfl rfl (Nat.le_of_ble_eq_true rfl) dX0_lay_5 (kIM (fun v3 s1 hS_s1 hF_s1 q4 => ?_))
  refine j_istore_n hx [(2, .int (zI v3)), (0, .ref a), (1, .int (zI x1))] dX0_lay_8 (by decide) rfl ?_
  refine j_iload_n hx 0 dX0_lay_9 rfl ?_
  refine j_iconst hx dX0_lay_10 ?_
  refine j_icmp_eq hx 25 dX0_lay_11 rfl (by omega) ⟨by decide, by decide⟩ (fun h5 => ?_) (fun h5 => ?_)
  · skip
    refine j_aload_n hx 1 dX0_lay_25 rfl ?_
    refine j_iload_n hx 2 dX0_lay_26 rfl ?_
    refine j_iconst hx dX0_lay_27 ?_
    refine j_iadd hx (r := x1 + 1) dX0_lay_28 rfl ?_
    refine p1_8 hx hG ha kf_RX0_53 dX0_lay_29 ?_
    obtain ⟨s2, e_s2⟩ : ∃ z, z = zU s1 a 8 (x1 + 1) := ⟨_, rfl⟩
    rw [← e_s2]
    have hS_s2 : zSK G s2 := by rw [e_s2]; exact zSK_F hS_s1 ha rfl rfl rfl (by omega)
    refine j_iload_n hx 0 dX0_lay_32 rfl ?_
    exact j_iret hx hq rfl (by decide) (by decide) dX0_lay_33 ⟨v3, rfl, rfl, hS_s2, (zFr_u (zFr_t zFr_rf hF_s1 (by decide)) e_s2 ha (by decide)), (by omega)⟩
  · skip
    refine j_aload_n hx 1 dX0_lay_14 rfl ?_
    refine j_iload_n hx 2 dX0_lay_15 rfl ?_
    refine j_callV hx hG (c_X0_heapOf hst a x1) lk_RX0_40 ha (by decide) rfl rfl rfl rfl [.int (zI x1)] ⟨rfl, hG, hS_s1, ha, (by omega)⟩ rfl rfl ⟨by decide, by decide⟩ ⟨by decide, by decide⟩ (k2 := 0) (n2 := 0) rfl rfl (Nat.le_of_ble_eq_true rfl) dX0_lay_16 (kRP (fun r6 q7 => ?_))
    refine j_iload_n hx 0 dX0_lay_19 rfl ?_
    refine j_iconst hx dX0_lay_20 ?_
    refine j_ior hx dX0_lay_21 (fun v8 f9 f10 => ?_)
    refine j_callV hx hG (c_X6_put hst r6 v8) lk_RX0_88 q7 (by decide) rfl rfl rfl rfl [.int (zI v8)] ⟨rfl, hG, hS_s1, q7, (by omega)⟩ rfl rfl ⟨by decide, by decide⟩ ⟨by decide, by decide⟩ (k2 := 0) (n2 := 0) rfl rfl (Nat.le_of_ble_eq_true rfl) dX0_lay_22 (kVM (fun s3 hS_s3 hF_s3 q12 => ?_))
    refine j_aload_n hx 1 dX0_lay_25 rfl ?_
    refine j_iload_n hx 2 dX0_lay_26 rfl ?_
    refine j_iconst hx dX0_lay_27 ?_
    refine j_iadd hx (r := x1 + 1) dX0_lay_28 rfl ?_
    refine p1_8 hx hG ha kf_RX0_53 dX0_lay_29 ?_
    obtain ⟨s4, e_s4⟩ : ∃ z, z = zU s3 a 8 (x1 + 1) := ⟨_, rfl⟩
    rw [← e_s4]
    have hS_s4 : zSK G s4 := by rw [e_s4]; exact zSK_F hS_s3 ha rfl rfl rfl (by omega)
    refine j_iload_n hx 0 dX0_lay_32 rfl ?_
    exact j_iret hx hq rfl (by decide) (by decide) dX0_lay_33 ⟨v3, rfl, rfl, hS_s4, (zFr_u (zFr_t (zFr_t zFr_rf hF_s1 (by decide)) hF_s3 (by decide)) e_s4 ha (by decide)), (by omega)⟩

set_option maxHeartbeats 4000000 in
set_option maxRecDepth 20000 in
theorem c_X0_step {E : zE} {l : Launch} (hst : l.stackTraces = false) (a : Nat) : Con E l yX0_step cX0_step 2 (some .boolean) { frames := 3, cells := 0, slots := 0, locals := 65 } (fun G s vs => vs = [.ref a] ∧ zGK G ∧ zSK G s ∧ (gT G a = 1)) (fun G s _ => pI (fun r G2 s2 => G2 = G ∧ zSK G s2 ∧ zFr [1, 7, 41] G s s2 ∧ (0 ≤ r ∧ r ≤ 1))) := by
  refine Con.mk hst (by decide) (fun G s vs h => by rw [h.1]; exact Nat.le_of_ble_eq_true rfl) ?_
  rintro X G s0 vs ⟨rfl, hG, hS0, ha⟩ rfl hx hq
  show JJ X E 2 G s0 0 0 [(0, .ref a)] 0 []
  refine j_aload_n hx 0 dX0_step_0 rfl ?_
  refine j_callV hx hG (c_X0_whose hst a) lk_RX0_92 ha (by decide) rfl rfl rfl rfl [] ⟨rfl, hG, hS0, ha⟩ rfl rfl ⟨by decide, by decide⟩ ⟨by decide, by decide⟩ (k2 := 0) (n2 := 0) rfl rfl (Nat.le_of_ble_eq_true rfl) dX0_step_1 (kIP (fun v1 q2 => ?_))
  refine j_istore_n hx [(1, .int (zI v1)), (0, .ref a)] dX0_step_4 (by decide) rfl ?_
  refine j_iload_n hx 0 dX0_step_5 rfl ?_
  refine j_iconst hx dX0_step_6 ?_
  refine j_icmp_ne hx 12 dX0_step_7 rfl (by omega) ⟨by decide, by decide⟩ (fun h3 => ?_) (fun h3 => ?_)
  · skip
    refine j_aload_n hx 1 dX0_step_12 rfl ?_
    refine j_iload_n hx 0 dX0_step_13 rfl ?_
    refine j_callV hx hG (c_X0_turnOver hst a v1) lk_RX0_95 ha (by decide) rfl rfl rfl rfl [.int (zI v1)] ⟨rfl, hG, hS0, ha, (by omega)⟩ rfl rfl ⟨by decide, by decide⟩ ⟨by decide, by decide⟩ (k2 := 0) (n2 := 0) rfl rfl (Nat.le_of_ble_eq_true rfl) dX0_step_14 (kVM (fun s1 hS_s1 hF_s1 q5 => ?_))
    refine j_aload_n hx 1 dX0_step_17 rfl ?_
    refine j_iload_n hx 0 dX0_step_18 rfl ?_
    refine j_callV hx hG (c_X0_lay hst a v1) lk_RX0_98 ha (by decide) rfl rfl rfl rfl [.int (zI v1)] ⟨rfl, hG, hS_s1, ha, (by omega)⟩ rfl rfl ⟨by decide, by decide⟩ ⟨by decide, by decide⟩ (k2 := 0) (n2 := 0) rfl rfl (Nat.le_of_ble_eq_true rfl) dX0_step_19 (kIM (fun v6 s2 hS_s2 hF_s2 q7 => ?_))
    refine j_pop hx dX0_step_22 rfl ?_
    refine j_iconst hx dX0_step_23 ?_
    exact j_zret hx hq rfl (by decide) (by decide) dX0_step_24 (by omega) ⟨1, rfl, rfl, hS_s2, (zFr_t (zFr_t zFr_rf hF_s1 (by decide)) hF_s2 (by decide)), (by omega)⟩
  · skip
    refine j_iconst hx dX0_step_10 ?_
    exact j_zret hx hq rfl (by decide) (by decide) dX0_step_11 (by omega) ⟨0, rfl, rfl, hS0, zFr_rf, (by omega)⟩

set_option maxHeartbeats 4000000 in
set_option maxRecDepth 20000 in
theorem c_X0_win {E : zE} {l : Launch} (hst : l.stackTraces = false) (a : Nat) (x1 : Int) (x2 : Int) (x3 : Int) : Con E l yX0_win cX0_win 7 (some .int) { frames := 2, cells := 0, slots := 0, locals := 43 } (fun G s vs => vs = [.ref a, .int (zI x1), .int (zI x2), .int (zI x3)] ∧ zGK G ∧ zSK G s ∧ (gT G a = 1) ∧ ((-2147483648) ≤ x1 ∧ x1 ≤ 2147483647) ∧ ((-2147483648) ≤ x2 ∧ x2 ≤ 2147483647) ∧ ((-2147483648) ≤ x3 ∧ x3 ≤ 2147483647)) (fun G s _ => pI (fun r G2 s2 => G2 = G ∧ zSK G s2 ∧ zFr [7, 41] G s s2 ∧ ((-2147483648) ≤ r ∧ r ≤ 2147483647))) := by
  refine Con.mk hst (by decide) (fun G s vs h => by rw [h.1]; exact Nat.le_of_ble_eq_true rfl) ?_
  rintro X G s0 vs ⟨rfl, hG, hS0, ha, hx1, hx2, hx3⟩ rfl hx hq
  show JJ X E 7 G s0 0 0 [(0, .ref a), (1, .int (zI x1)), (2, .int (zI x2)), (3, .int (zI x3))] 0 []
  refine j_aload_n hx 0 dX0_win_0 rfl ?_
  refine j_iload_n hx 1 dX0_win_1 rfl ?_
  refine j_callV hx hG (c_X0_rowOf hst a x1) lk_RX0_36 ha (by decide) rfl rfl rfl rfl [.int (zI x1)] ⟨rfl, hG, hS0, ha, (by omega)⟩ rfl rfl ⟨by decide, by decide⟩ ⟨by decide, by decide⟩ (k2 := 0) (n2 := 0) rfl rfl (Nat.le_of_ble_eq_true rfl) dX0_win_2 (kRP (fun r1 q2 => ?_))
  refine j_astore hx [(4, .ref r1), (0, .ref a), (1, .int (zI x1)), (2, .int (zI x2)), (3, .int (zI x3))] dX0_win_5 (by decide) rfl ?_
  refine j_aload hx 0 dX0_win_7 rfl ?_
  have f3 := zf hS0 q2 (k := 1) rfl
  refine gN7_1 hx hG q2 kf_RX0_43 rfl dX0_win_9 ?_
  refine j_istore hx [(5, .int (zI ((s0 r1 1)))), (4, .ref r1), (0, .ref a), (1, .int (zI x1)), (2, .int (zI x2)), (3, .int (zI x3))] dX0_win_12 (by decide) rfl ?_
  refine j_aload_n hx 2 dX0_win_14 rfl ?_
  refine j_iload_n hx 4 dX0_win_15 rfl ?_
  refine j_bipush hx dX0_win_16 rfl ?_
  refine j_idiv hx dX0_win_18 (by omega) ⟨by decide, by decide⟩ (by decide) (fun v4 f5 f6 f7 => ?_)
  refine j_callV hx hG (c_X0_heapOf hst a v4) lk_RX0_40 ha (by decide) rfl rfl rfl rfl [.int (zI v4)] ⟨rfl, hG, hS0, ha, (by omega)⟩ rfl rfl ⟨by decide, by decide⟩ ⟨by decide, by decide⟩ (k2 := 0) (n2 := 0) rfl rfl (Nat.le_of_ble_eq_true rfl) dX0_win_19 (kRP (fun r10 q11 => ?_))
  refine j_callV hx hG (c_X6_topKind hst r10) lk_RX0_75 q11 (by decide) rfl rfl rfl rfl [] ⟨rfl, hG, hS0, q11⟩ rfl rfl ⟨by decide, by decide⟩ ⟨by decide, by decide⟩ (k2 := 0) (n2 := 0) rfl rfl (Nat.le_of_ble_eq_true rfl) dX0_win_22 (kIP (fun v12 q13 => ?_))
  refine j_istore hx [(6, .int (zI v12)), (5, .int (zI ((s0 r1 1)))), (4, .ref r1), (0, .ref a), (1, .int (zI x1)), (2, .int (zI x2)), (3, .int (zI x3))] dX0_win_25 (by decide) rfl ?_
  refine j_aload hx 2 dX0_win_27 rfl ?_
  refine j_aload_n hx 3 dX0_win_29 rfl ?_
  refine j_iload_n hx 5 dX0_win_30 rfl ?_
  refine j_bipush hx dX0_win_31 rfl ?_
  refine j_idiv hx dX0_win_33 (by omega) ⟨by decide, by decide⟩ (by decide) (fun v14 f15 f16 f17 => ?_)
  refine j_callV hx hG (c_X0_heapOf hst a v14) lk_RX0_40 ha (by decide) rfl rfl rfl rfl [.int (zI v14)] ⟨rfl, hG, hS0, ha, (by omega)⟩ rfl rfl ⟨by decide, by decide⟩ ⟨by decide, by decide⟩ (k2 := 0) (n2 := 0) rfl rfl (Nat.le_of_ble_eq_true rfl) dX0_win_34 (kRP (fun r20 q21 => ?_))
  refine j_callV hx hG (c_X6_takeAll hst r1 r20) lk_RX0_82 q2 (by decide) rfl rfl rfl rfl [.ref r20] ⟨rfl, hG, hS0, q2, q21⟩ rfl rfl ⟨by decide, by decide⟩ ⟨by decide, by decide⟩ (k2 := 0) (n2 := 0) rfl rfl (Nat.le_of_ble_eq_true rfl) dX0_win_37 (kVM (fun s1 hS_s1 hF_s1 q23 => ?_))
  refine j_aload hx 2 dX0_win_40 rfl ?_
  refine j_aload_n hx 3 dX0_win_42 rfl ?_
  refine j_iload_n hx 5 dX0_win_43 rfl ?_
  refine j_bipush hx dX0_win_44 rfl ?_
  refine j_irem hx dX0_win_46 (by omega) ⟨by decide, by decide⟩ (by decide) (fun v24 f25 f26 f27 f28 => ?_)
  refine j_callV hx hG (c_X0_heapOf hst a v24) lk_RX0_40 ha (by decide) rfl rfl rfl rfl [.int (zI v24)] ⟨rfl, hG, hS_s1, ha, (by omega)⟩ rfl rfl ⟨by decide, by decide⟩ ⟨by decide, by decide⟩ (k2 := 0) (n2 := 0) rfl rfl (Nat.le_of_ble_eq_true rfl) dX0_win_47 (kRP (fun r30 q31 => ?_))
  refine j_callV hx hG (c_X6_takeAll hst r1 r30) lk_RX0_82 q2 (by decide) rfl rfl rfl rfl [.ref r30] ⟨rfl, hG, hS_s1, q2, q31⟩ rfl rfl ⟨by decide, by decide⟩ ⟨by decide, by decide⟩ (k2 := 0) (n2 := 0) rfl rfl (Nat.le_of_ble_eq_true rfl) dX0_win_50 (kVM (fun s2 hS_s2 hF_s2 q33 => ?_))
  refine j_iload_n hx 6 dX0_win_53 rfl ?_
  refine j_iconst hx dX0_win_54 ?_
  have c75_3 : JJ X E 7 G s2 0 0 [(0, .ref a), (4, .ref r1), (5, .int (zI ((s0 r1 1))))] 75 [] := by
    refine j_aload hx 1 dX0_win_75 rfl ?_
    refine j_aload_n hx 0 dX0_win_77 rfl ?_
    refine g1_6 hx hG ha kf_RX0_33 dX0_win_78 ?_
    refine j_callV hx hG (c_X6_takeAll hst r1 (gP G a 6)) lk_RX0_82 q2 (by decide) rfl rfl rfl rfl [.ref (gP G a 6)] ⟨rfl, hG, hS_s2, q2, (zr (k := 6) (t2 := 7) hG ha rfl)⟩ rfl rfl ⟨by decide, by decide⟩ ⟨by decide, by decide⟩ (k2 := 0) (n2 := 0) rfl rfl (Nat.le_of_ble_eq_true rfl) dX0_win_81 (kVM (fun s4 hS_s4 hF_s4 q35 => ?_))
    refine j_aload hx 1 dX0_win_84 rfl ?_
    have f36 := zf hS_s4 q2 (k := 1) rfl
    refine gN7_1 hx hG q2 kf_RX0_43 rfl dX0_win_86 ?_
    refine j_iload hx 2 dX0_win_89 rfl ?_
    refine j_isub hx (r := (s4 r1 1) - (s0 r1 1)) dX0_win_91 (by omega) ?_
    exact j_iret hx hq rfl (by decide) (by decide) dX0_win_92 ⟨(s4 r1 1) - (s0 r1 1), rfl, rfl, hS_s4, (zFr_t (zFr_t (zFr_t zFr_rf hF_s1 (by decide)) hF_s2 (by decide)) hF_s4 (by decide)), (by omega)⟩
  refine j_icmp_eq hx 75 dX0_win_55 rfl (by omega) ⟨by decide, by decide⟩ (fun h37 => ?_) (fun h37 => ?_)
  · skip
    exact j_sub [3, 2, 1] [(0, .ref a), (4, .ref r1), (5, .int (zI ((s0 r1 1))))] rfl (c75_3  )
  · skip
    refine j_iload_n hx 6 dX0_win_58 rfl ?_
    refine j_iconst hx dX0_win_59 ?_
    refine j_icmp_ne hx 84 dX0_win_60 rfl (by omega) ⟨by decide, by decide⟩ (fun h38 => ?_) (fun h38 => ?_)
    · skip
      refine j_aload hx 2 dX0_win_84 rfl ?_
      have f39 := zf hS_s2 q2 (k := 1) rfl
      refine gN7_1 hx hG q2 kf_RX0_43 rfl dX0_win_86 ?_
      refine j_iload hx 1 dX0_win_89 rfl ?_
      refine j_isub hx (r := (s2 r1 1) - (s0 r1 1)) dX0_win_91 (by omega) ?_
      exact j_iret hx hq rfl (by decide) (by decide) dX0_win_92 ⟨(s2 r1 1) - (s0 r1 1), rfl, rfl, hS_s2, (zFr_t (zFr_t zFr_rf hF_s1 (by decide)) hF_s2 (by decide)), (by omega)⟩
    · skip
      refine j_aload_n hx 3 dX0_win_63 rfl ?_
      refine g1_6 hx hG ha kf_RX0_33 dX0_win_64 ?_
      refine j_callV hx hG (c_X6_topKind hst (gP G a 6)) lk_RX0_75 (zr (k := 6) (t2 := 7) hG ha rfl) (by decide) rfl rfl rfl rfl [] ⟨rfl, hG, hS_s2, (zr (k := 6) (t2 := 7) hG ha rfl)⟩ rfl rfl ⟨by decide, by decide⟩ ⟨by decide, by decide⟩ (k2 := 0) (n2 := 0) rfl rfl (Nat.le_of_ble_eq_true rfl) dX0_win_67 (kIP (fun v40 q41 => ?_))
      refine j_iload hx 0 dX0_win_70 rfl ?_
      refine j_icmp_ne hx 84 dX0_win_72 rfl (by omega) (by omega) (fun h42 => ?_) (fun h42 => ?_)
      · skip
        refine j_aload hx 2 dX0_win_84 rfl ?_
        have f43 := zf hS_s2 q2 (k := 1) rfl
        refine gN7_1 hx hG q2 kf_RX0_43 rfl dX0_win_86 ?_
        refine j_iload hx 1 dX0_win_89 rfl ?_
        refine j_isub hx (r := (s2 r1 1) - (s0 r1 1)) dX0_win_91 (by omega) ?_
        exact j_iret hx hq rfl (by decide) (by decide) dX0_win_92 ⟨(s2 r1 1) - (s0 r1 1), rfl, rfl, hS_s2, (zFr_t (zFr_t zFr_rf hF_s1 (by decide)) hF_s2 (by decide)), (by omega)⟩
      · skip
        exact j_sub [3, 2, 1] [(0, .ref a), (4, .ref r1), (5, .int (zI ((s0 r1 1))))] rfl (c75_3  )

set_option maxHeartbeats 4000000 in
set_option maxRecDepth 20000 in
theorem c_X0_poolHeaps {E : zE} {l : Launch} (hst : l.stackTraces = false) (a : Nat) (x1 : Int) : Con E l yX0_poolHeaps cX0_poolHeaps 2 none { frames := 2, cells := 0, slots := 0, locals := 43 } (fun G s vs => vs = [.ref a, .int (zI x1)] ∧ zGK G ∧ zSK G s ∧ (gT G a = 1) ∧ ((-2147483648) ≤ x1 ∧ x1 ≤ 2147483647)) (fun G s _ => pV (fun G2 s2 => G2 = G ∧ zSK G s2 ∧ zFr [7, 41] G s s2 ∧ True)) := by
  refine Con.mk hst (by decide) (fun G s vs h => by rw [h.1]; exact Nat.le_of_ble_eq_true rfl) ?_
  rintro X G s0 vs ⟨rfl, hG, hS0, ha, hx1⟩ rfl hx hq
  show JJ X E 2 G s0 0 0 [(0, .ref a), (1, .int (zI x1))] 0 []
  refine j_aload_n hx 0 dX0_poolHeaps_0 rfl ?_
  refine g1_6 hx hG ha kf_RX0_33 dX0_poolHeaps_1 ?_
  refine j_aload_n hx 0 dX0_poolHeaps_4 rfl ?_
  refine j_iload_n hx 1 dX0_poolHeaps_5 rfl ?_
  refine j_bipush hx dX0_poolHeaps_6 rfl ?_
  refine j_idiv hx dX0_poolHeaps_8 (by omega) ⟨by decide, by decide⟩ (by decide) (fun v1 f2 f3 f4 => ?_)
  refine j_callV hx hG (c_X0_heapOf hst a v1) lk_RX0_40 ha (by decide) rfl rfl rfl rfl [.int (zI v1)] ⟨rfl, hG, hS0, ha, (by omega)⟩ rfl rfl ⟨by decide, by decide⟩ ⟨by decide, by decide⟩ (k2 := 0) (n2 := 0) rfl rfl (Nat.le_of_ble_eq_true rfl) dX0_poolHeaps_9 (kRP (fun r7 q8 => ?_))
  refine j_callV hx hG (c_X6_takeAll hst (gP G a 6) r7) lk_RX0_82 (zr (k := 6) (t2 := 7) hG ha rfl) (by decide) rfl rfl rfl rfl [.ref r7] ⟨rfl, hG, hS0, (zr (k := 6) (t2 := 7) hG ha rfl), q8⟩ rfl rfl ⟨by decide, by decide⟩ ⟨by decide, by decide⟩ (k2 := 0) (n2 := 0) rfl rfl (Nat.le_of_ble_eq_true rfl) dX0_poolHeaps_12 (kVM (fun s1 hS_s1 hF_s1 q10 => ?_))
  refine j_aload_n hx 0 dX0_poolHeaps_15 rfl ?_
  refine g1_6 hx hG ha kf_RX0_33 dX0_poolHeaps_16 ?_
  refine j_aload_n hx 0 dX0_poolHeaps_19 rfl ?_
  refine j_iload_n hx 1 dX0_poolHeaps_20 rfl ?_
  refine j_bipush hx dX0_poolHeaps_21 rfl ?_
  refine j_irem hx dX0_poolHeaps_23 (by omega) ⟨by decide, by decide⟩ (by decide) (fun v11 f12 f13 f14 f15 => ?_)
  refine j_callV hx hG (c_X0_heapOf hst a v11) lk_RX0_40 ha (by decide) rfl rfl rfl rfl [.int (zI v11)] ⟨rfl, hG, hS_s1, ha, (by omega)⟩ rfl rfl ⟨by decide, by decide⟩ ⟨by decide, by decide⟩ (k2 := 0) (n2 := 0) rfl rfl (Nat.le_of_ble_eq_true rfl) dX0_poolHeaps_24 (kRP (fun r17 q18 => ?_))
  refine j_callV hx hG (c_X6_takeAll hst (gP G a 6) r17) lk_RX0_82 (zr (k := 6) (t2 := 7) hG ha rfl) (by decide) rfl rfl rfl rfl [.ref r17] ⟨rfl, hG, hS_s1, (zr (k := 6) (t2 := 7) hG ha rfl), q18⟩ rfl rfl ⟨by decide, by decide⟩ ⟨by decide, by decide⟩ (k2 := 0) (n2 := 0) rfl rfl (Nat.le_of_ble_eq_true rfl) dX0_poolHeaps_27 (kVM (fun s2 hS_s2 hF_s2 q20 => ?_))
  exact j_vret hx hq rfl (by decide) (by decide) dX0_poolHeaps_30 ⟨rfl, rfl, hS_s2, (zFr_t (zFr_t zFr_rf hF_s1 (by decide)) hF_s2 (by decide)), trivial⟩

set_option maxHeartbeats 4000000 in
set_option maxRecDepth 20000 in
theorem c_X0_mix {E : zE} {l : Launch} (hst : l.stackTraces = false) (a : Nat) (x1 : Int) : Con E l yX0_mix cX0_mix 6 none { frames := 1, cells := 0, slots := 0, locals := 23 } (fun G s vs => vs = [.ref a, .int (zI x1)] ∧ zGK G ∧ zSK G s ∧ (gT G a = 1) ∧ ((-2147483648) ≤ x1 ∧ x1 ≤ 2147483647)) (fun G s _ => pV (fun G2 s2 => G2 = G ∧ zSK G s2 ∧ zFr [41] G s s2 ∧ True)) := by
  refine Con.mk hst (by decide) (fun G s vs h => by rw [h.1]; exact Nat.le_of_ble_eq_true rfl) ?_
  rintro X G s0 vs ⟨rfl, hG, hS0, ha, hx1⟩ rfl hx hq
  show JJ X E 6 G s0 0 0 [(0, .ref a), (1, .int (zI x1))] 0 []
  refine j_iload_n hx 1 dX0_mix_0 rfl ?_
  refine j_istore_n hx [(2, .int (zI x1)), (0, .ref a), (1, .int (zI x1))] dX0_mix_1 (by decide) rfl ?_
  refine j_iconst hx dX0_mix_2 ?_
  refine j_istore_n hx [(3, .int (zI 0)), (2, .int (zI x1)), (0, .ref a), (1, .int (zI x1))] dX0_mix_3 (by decide) rfl ?_
  have c4_1 : ∀ (m_c4_1 : Nat) (v1 : Int) (v2 : Int) (s2 : zS), 2147483648 - v2 < m_c4_1 → ((-2147483648) ≤ v1 ∧ v1 ≤ 2147483647) → (0 ≤ v2 ∧ v2 ≤ 3) → (zSK G s2) → (zFr [41] G s0 s2) → JJ X E 6 G s2 0 0 [(0, .ref a), (2, .int (zI v1)), (3, .int (zI v2))] 4 [] := by
    intro m_c4_1
    induction m_c4_1 with
    | zero => intro v1 v2 s2 hm_c4_1 f3 f4 hS_s2 hF_s2; exfalso; omega
    | succ m_c4_1 ih_c4_1 => 
      intro v1 v2 s2 hm_c4_1 f3 f4 hS_s2 hF_s2
      refine j_iload_n hx 2 dX0_mix_4 rfl ?_
      refine j_aload_n hx 0 dX0_mix_5 rfl ?_
      have f3 := zf hS0 ha (k := 7) rfl
      refine g1_7 hx hG ha kf_RX0_50 (v := (s0 a 7)) (by rw [(zFr_g hF_s2 ha (by decide))]) dX0_mix_6 ?_
      refine j_icmp_ge hx 75 dX0_mix_9 rfl (by omega) (by omega) (fun h4 => ?_) (fun h4 => ?_)
      · skip
        exact j_vret hx hq rfl (by decide) (by decide) dX0_mix_75 ⟨rfl, rfl, hS_s2, (zFr_t zFr_rf hF_s2 (by decide)), trivial⟩
      · skip
        refine j_aload_n hx 0 dX0_mix_12 rfl ?_
        refine j_iload_n hx 2 dX0_mix_13 rfl ?_
        refine j_callV hx hG (c_X0_rowOf hst a v2) lk_RX0_36 ha (by decide) rfl rfl rfl rfl [.int (zI v2)] ⟨rfl, hG, hS_s2, ha, (by omega)⟩ rfl rfl ⟨by decide, by decide⟩ ⟨by decide, by decide⟩ (k2 := 0) (n2 := 0) rfl rfl (Nat.le_of_ble_eq_true rfl) dX0_mix_14 (kRP (fun r5 q6 => ?_))
        refine j_astore hx [(4, .ref r5), (0, .ref a), (2, .int (zI v1)), (3, .int (zI v2))] dX0_mix_17 (by decide) rfl ?_
        refine j_aload hx 0 dX0_mix_19 rfl ?_
        have f7 := zf hS0 q6 (k := 1) rfl
        refine gN7_1 hx hG q6 kf_RX0_43 (v := (s0 r5 1)) (by rw [(zFr_g hF_s2 q6 (by decide))]) dX0_mix_21 ?_
        refine j_iconst hx dX0_mix_24 ?_
        refine j_isub hx (r := (s0 r5 1) - 1) dX0_mix_25 (by omega) ?_
        refine j_istore hx [(5, .int (zI ((s0 r5 1) - 1))), (4, .ref r5), (0, .ref a), (2, .int (zI v1)), (3, .int (zI v2))] dX0_mix_26 (by decide) rfl ?_
        have c28_7 : ∀ (m_c28_7 : Nat) (v8 : Int) (v9 : Int) (s8 : zS), v9 + 2147483648 < m_c28_7 → ((-2147483648) ≤ v8 ∧ v8 ≤ 2147483647) → ((-1) ≤ v9 ∧ v9 ≤ 59) → (zSK G s8) → (zFr [41] G s2 s8) → JJ X E 6 G s8 0 0 [(0, .ref a), (2, .int (zI v8)), (3, .int (zI v2)), (4, .ref r5), (5, .int (zI v9))] 28 [] := by
          intro m_c28_7
          induction m_c28_7 with
          | zero => intro v8 v9 s8 hm_c28_7 f9 f10 hS_s8 hF_s8; exfalso; omega
          | succ m_c28_7 ih_c28_7 => 
            intro v8 v9 s8 hm_c28_7 f9 f10 hS_s8 hF_s8
            refine j_iload hx 4 dX0_mix_28 rfl ?_
            refine j_iconst hx dX0_mix_30 ?_
            refine j_icmp_lt hx 69 dX0_mix_31 rfl (by omega) ⟨by decide, by decide⟩ (fun h10 => ?_) (fun h10 => ?_)
            · skip
              refine j_iinc hx 2 [(3, .int (zI (v2 + 1))), (0, .ref a), (2, .int (zI v8)), (4, .ref r5), (5, .int (zI v9))] dX0_mix_69 rfl (by omega) (by decide) rfl ?_
              refine j_goto hx 4 dX0_mix_72 rfl ?_
              exact j_sub [1, 2, 0] [(0, .ref a), (2, .int (zI v8)), (3, .int (zI (v2 + 1)))] rfl (ih_c4_1 v8 (v2 + 1) s8 (by omega) (by omega) (by omega) hS_s8 (zFr_t (zFr_t zFr_rf hF_s2 (by decide)) hF_s8 (by decide)))
            · skip
              refine j_iload_n hx 1 dX0_mix_34 rfl ?_
              refine j_ldc hx (c := 1103515245) dX0_mix_35 kk_RX0_101 (by decide) ?_
              refine j_imul hx (r := 1103515245 * v8) dX0_mix_37 (by omega) ?_
              refine j_norm (fun v11 f12 f13 f14 => ?_)
              refine j_sipush hx dX0_mix_38 rfl ?_
              refine j_iadd hx (r := v11 + 12345) dX0_mix_41 rfl ?_
              refine j_norm (fun v15 f16 f17 f18 => ?_)
              refine j_istore_n hx [(2, .int (zI v15)), (0, .ref a), (3, .int (zI v2)), (4, .ref r5), (5, .int (zI v9))] dX0_mix_42 (by decide) rfl ?_
              refine j_aload hx 3 dX0_mix_43 rfl ?_
              refine j_iload hx 4 dX0_mix_45 rfl ?_
              refine j_iload_n hx 0 dX0_mix_47 rfl ?_
              refine j_bipush hx dX0_mix_48 rfl ?_
              refine j_iushr hx dX0_mix_50 (fun v19 f20 f21 => ?_)
              refine j_sipush hx dX0_mix_51 rfl ?_
              refine j_iand hx dX0_mix_54 (by omega) ⟨by decide, by decide⟩ (fun v22 f23 f24 f25 f26 _ => ?_)
              refine j_iload hx 4 dX0_mix_55 rfl ?_
              refine j_iconst hx dX0_mix_57 ?_
              refine j_iadd hx (r := v9 + 1) dX0_mix_58 rfl ?_
              refine j_irem hx dX0_mix_59 (by omega) (by omega) (by omega) (fun v28 f29 f30 f31 f32 => ?_)
              refine j_callV hx hG (c_X6_exchange hst r5 v9 v28) lk_RX0_102 q6 (by decide) rfl rfl rfl rfl [.int (zI v9), .int (zI v28)] ⟨rfl, hG, hS_s8, q6, (by omega), (by omega)⟩ rfl rfl ⟨by decide, by decide⟩ ⟨by decide, by decide⟩ (k2 := 0) (n2 := 0) rfl rfl (Nat.le_of_ble_eq_true rfl) dX0_mix_60 (kVM (fun s13 hS_s13 hF_s13 q35 => ?_))
              refine j_iinc hx 4 [(5, .int (zI (v9 - 1))), (2, .int (zI v15)), (0, .ref a), (3, .int (zI v2)), (4, .ref r5)] dX0_mix_63 rfl (by omega) (by decide) rfl ?_
              refine j_goto hx 28 dX0_mix_66 rfl ?_
              exact j_sub [2, 1, 3, 4, 0] [(0, .ref a), (2, .int (zI v15)), (3, .int (zI v2)), (4, .ref r5), (5, .int (zI (v9 - 1)))] rfl (ih_c28_7 v15 (v9 - 1) s13 (by omega) (by omega) (by omega) hS_s13 (zFr_t (zFr_t zFr_rf hF_s8 (by decide)) hF_s13 (by decide)))
        exact j_sub [2, 3, 4, 1, 0] [(0, .ref a), (2, .int (zI v1)), (3, .int (zI v2)), (4, .ref r5), (5, .int (zI ((s0 r5 1) - 1)))] rfl (c28_7 (2147483648 * 4) v1 ((s0 r5 1) - 1) s2 (by omega) (by omega) (by omega) hS_s2 zFr_rf)
  exact j_sub [2, 1, 0] [(0, .ref a), (2, .int (zI x1)), (3, .int (zI 0))] rfl (c4_1 (2147483648 * 4) x1 0 s0 (by omega) (by omega) (by omega) hS0 zFr_rf)

set_option maxHeartbeats 4000000 in
set_option maxRecDepth 20000 in
theorem c_X0_pack {E : zE} {l : Launch} (hst : l.stackTraces = false) (a : Nat) (b1 : Nat) (x2 : Int) : Con E l yX0_pack cX0_pack 12 none { frames := 3, cells := 0, slots := 0, locals := 65 } (fun G s vs => vs = [.ref a, .ref b1, .int (zI x2)] ∧ zGK G ∧ zSK G s ∧ (gT G a = 1) ∧ (gT G b1 = 53) ∧ ((-2147483648) ≤ x2 ∧ x2 ≤ 2147483647)) (fun G s _ => pV (fun G2 s2 => G2 = G ∧ zSK G s2 ∧ zFr [53] G s s2 ∧ True)) := by
  refine Con.mk hst (by decide) (fun G s vs h => by rw [h.1]; exact Nat.le_of_ble_eq_true rfl) ?_
  rintro X G s0 vs ⟨rfl, hG, hS0, ha, hb1, hx2⟩ rfl hx hq
  show JJ X E 12 G s0 0 0 [(0, .ref a), (1, .ref b1), (2, .int (zI x2))] 0 []
  refine j_iload_n hx 2 dX0_pack_0 rfl ?_
  refine j_if_lt hx 13 dX0_pack_1 rfl (by omega) (fun h1 => ?_) (fun h1 => ?_)
  · skip
    exact j_vret hx hq rfl (by decide) (by decide) dX0_pack_13 ⟨rfl, rfl, hS0, zFr_rf, trivial⟩
  · skip
    refine j_iload_n hx 2 dX0_pack_4 rfl ?_
    refine j_aload_n hx 1 dX0_pack_5 rfl ?_
    have f2 := znb hG b1
    refine j_alen hx hG hb1 (by decide) (by decide) rfl dX0_pack_6 ?_
    refine j_bipush hx dX0_pack_7 rfl ?_
    refine j_isub hx (r := (gN G b1 : Int) - 7) dX0_pack_9 (by omega) ?_
    refine j_icmp_le hx 14 dX0_pack_10 rfl (by omega) (by omega) (fun h3 => ?_) (fun h3 => ?_)
    · skip
      refine j_iconst hx dX0_pack_14 ?_
      refine j_istore_n hx [(3, .int (zI 0)), (0, .ref a), (1, .ref b1), (2, .int (zI x2))] dX0_pack_15 (by decide) rfl ?_
      have c16_1 : ∀ (m_c16_1 : Nat) (v4 : Int) (s2 : zS), 2147483648 - v4 < m_c16_1 → (0 ≤ v4 ∧ v4 ≤ 7) → (zSK G s2) → (zFr [53] G s0 s2) → JJ X E 12 G s2 0 0 [(0, .ref a), (1, .ref b1), (2, .int (zI x2)), (3, .int (zI v4))] 16 [] := by
        intro m_c16_1
        induction m_c16_1 with
        | zero => intro v4 s2 hm_c16_1 f3 hS_s2 hF_s2; exfalso; omega
        | succ m_c16_1 ih_c16_1 => 
          intro v4 s2 hm_c16_1 f3 hS_s2 hF_s2
          refine j_iload_n hx 3 dX0_pack_16 rfl ?_
          refine j_bipush hx dX0_pack_17 rfl ?_
          refine j_icmp_ge hx 34 dX0_pack_19 rfl (by omega) ⟨by decide, by decide⟩ (fun h5 => ?_) (fun h5 => ?_)
          · skip
            refine j_aload_n hx 0 dX0_pack_34 rfl ?_
            refine j_callV hx hG (c_X0_whose hst a) lk_RX0_92 ha (by decide) rfl rfl rfl rfl [] ⟨rfl, hG, hS_s2, ha⟩ rfl rfl ⟨by decide, by decide⟩ ⟨by decide, by decide⟩ (k2 := 0) (n2 := 0) rfl rfl (Nat.le_of_ble_eq_true rfl) dX0_pack_35 (kIP (fun v6 q7 => ?_))
            refine j_iconst hx dX0_pack_38 ?_
            refine j_iadd hx (r := v6 + 1) dX0_pack_39 rfl ?_
            refine j_i2l hx dX0_pack_40 (by omega) ?_
            refine j_bipush hx dX0_pack_41 rfl ?_
            refine j_lshl hx dX0_pack_43 (fun w8 f9 f10 => ?_)
            refine j_lstore_n hx [(3, .long (zL w8)), (0, .ref a), (1, .ref b1), (2, .int (zI x2))] dX0_pack_44 (by decide) rfl ?_
            refine j_lconst hx dX0_pack_45 ?_
            show JJ X E 12 G s2 0 0 [(3, .long (zL w8)), (0, .ref a), (1, .ref b1), (2, .int (zI x2))] 46 [.long (zL 0)]
            refine j_lstore hx [(5, .long (zL 0)), (3, .long (zL w8)), (0, .ref a), (1, .ref b1), (2, .int (zI x2))] dX0_pack_46 (by decide) rfl ?_
            refine j_iconst hx dX0_pack_48 ?_
            refine j_istore hx [(7, .int (zI 0)), (5, .long (zL 0)), (3, .long (zL w8)), (0, .ref a), (1, .ref b1), (2, .int (zI x2))] dX0_pack_49 (by decide) rfl ?_
            refine j_iconst hx dX0_pack_51 ?_
            refine j_istore hx [(8, .int (zI 0)), (7, .int (zI 0)), (5, .long (zL 0)), (3, .long (zL w8)), (0, .ref a), (1, .ref b1), (2, .int (zI x2))] dX0_pack_52 (by decide) rfl ?_
            refine j_iconst hx dX0_pack_54 ?_
            refine j_istore hx [(9, .int (zI 0)), (8, .int (zI 0)), (7, .int (zI 0)), (5, .long (zL 0)), (3, .long (zL w8)), (0, .ref a), (1, .ref b1), (2, .int (zI x2))] dX0_pack_55 (by decide) rfl ?_
            have c57_6 : ∀ (m_c57_6 : Nat) (w11 : Int) (w12 : Int) (v13 : Int) (v14 : Int) (v15 : Int) (s7 : zS), 2147483648 - v15 < m_c57_6 → ((-9223372036854775808) ≤ w11 ∧ w11 ≤ 9223372036854775807) → ((-9223372036854775808) ≤ w12 ∧ w12 ≤ 9223372036854775807) → ((-2147483648) ≤ v13 ∧ v13 ≤ 2147483647) → (0 ≤ v14 ∧ v14 ≤ 5) → (0 ≤ v15 ∧ v15 ≤ 7) → (zSK G s7) → (zFr [53] G s2 s7) → JJ X E 12 G s7 0 0 [(0, .ref a), (1, .ref b1), (2, .int (zI x2)), (3, .long (zL w11)), (5, .long (zL w12)), (7, .int (zI v13)), (8, .int (zI v14)), (9, .int (zI v15))] 57 [] := by
              intro m_c57_6
              induction m_c57_6 with
              | zero => intro w11 w12 v13 v14 v15 s7 hm_c57_6 f8 f9 f10 f11 f12 hS_s7 hF_s7; exfalso; omega
              | succ m_c57_6 ih_c57_6 => 
                intro w11 w12 v13 v14 v15 s7 hm_c57_6 f8 f9 f10 f11 f12 hS_s7 hF_s7
                refine j_iload hx 7 dX0_pack_57 rfl ?_
                refine j_bipush hx dX0_pack_59 rfl ?_
                refine j_icmp_ge hx 175 dX0_pack_61 rfl (by omega) ⟨by decide, by decide⟩ (fun h16 => ?_) (fun h16 => ?_)
                · skip
                  refine j_aload_n hx 1 dX0_pack_175 rfl ?_
                  refine j_iload_n hx 2 dX0_pack_176 rfl ?_
                  refine j_iconst hx dX0_pack_177 ?_
                  refine j_iadd hx (r := x2 + 5) dX0_pack_178 rfl ?_
                  refine j_lload_n hx 3 dX0_pack_179 rfl ?_
                  refine j_last hx hG hb1 (by decide) rfl rfl (by omega) (by omega) (j := (x2 + 5).toNat) rfl dX0_pack_180 ?_
                  obtain ⟨s15, e_s15⟩ : ∃ z, z = zU s7 b1 (x2 + 5).toNat w11 := ⟨_, rfl⟩
                  rw [← e_s15]
                  have hS_s15 : zSK G s15 := by rw [e_s15]; exact zSK_A hS_s7 hb1 rfl rfl rfl (by omega)
                  exact j_vret hx hq rfl (by decide) (by decide) dX0_pack_181 ⟨rfl, rfl, hS_s15, (zFr_u (zFr_t (zFr_t zFr_rf hF_s2 (by decide)) hF_s7 (by decide)) e_s15 hb1 (by decide)), trivial⟩
                · skip
                  refine j_aload_n hx 0 dX0_pack_64 rfl ?_
                  refine j_iload hx 7 dX0_pack_65 rfl ?_
                  refine j_callV hx hG (c_X0_pileOf hst a v15) lk_RX0_47 ha (by decide) rfl rfl rfl rfl [.int (zI v15)] ⟨rfl, hG, hS_s7, ha, (by omega)⟩ rfl rfl ⟨by decide, by decide⟩ ⟨by decide, by decide⟩ (k2 := 0) (n2 := 0) rfl rfl (Nat.le_of_ble_eq_true rfl) dX0_pack_67 (kRP (fun r17 q18 => ?_))
                  refine j_astore hx [(10, .ref r17), (0, .ref a), (1, .ref b1), (2, .int (zI x2)), (3, .long (zL w11)), (5, .long (zL w12)), (7, .int (zI v13)), (8, .int (zI v14)), (9, .int (zI v15))] dX0_pack_70 (by decide) rfl ?_
                  refine j_lload_n hx 4 dX0_pack_72 rfl ?_
                  refine j_aload hx 0 dX0_pack_73 rfl ?_
                  have f19 := zf hS0 q18 (k := 1) rfl
                  refine gN7_1 hx hG q18 kf_RX0_43 (v := (s0 r17 1)) (by rw [(zFr_g hF_s7 q18 (by decide)), (zFr_g hF_s2 q18 (by decide))]) dX0_pack_75 ?_
                  refine j_i2l hx dX0_pack_78 (by omega) ?_
                  refine j_bipush hx dX0_pack_79 rfl ?_
                  refine j_iload hx 8 dX0_pack_81 rfl ?_
                  refine j_imul hx (r := 6 * v15) dX0_pack_83 rfl ?_
                  refine j_lshl hx dX0_pack_84 (fun w20 f21 f22 => ?_)
                  refine j_lor hx dX0_pack_85 (fun w23 f24 f25 => ?_)
                  refine j_lstore_n hx [(3, .long (zL w23)), (10, .ref r17), (0, .ref a), (1, .ref b1), (2, .int (zI x2)), (5, .long (zL w12)), (7, .int (zI v13)), (8, .int (zI v14)), (9, .int (zI v15))] dX0_pack_86 (by decide) rfl ?_
                  refine j_iconst hx dX0_pack_87 ?_
                  refine j_istore hx [(11, .int (zI 0)), (3, .long (zL w23)), (10, .ref r17), (0, .ref a), (1, .ref b1), (2, .int (zI x2)), (5, .long (zL w12)), (7, .int (zI v13)), (8, .int (zI v14)), (9, .int (zI v15))] dX0_pack_88 (by decide) rfl ?_
                  have c90_16 : ∀ (m_c90_16 : Nat) (w26 : Int) (v27 : Int) (v28 : Int) (v29 : Int) (s17 : zS), 2147483648 - v29 < m_c90_16 → ((-9223372036854775808) ≤ w26 ∧ w26 ≤ 9223372036854775807) → ((-2147483648) ≤ v27 ∧ v27 ≤ 2147483647) → (0 ≤ v28 ∧ v28 ≤ 5) → (0 ≤ v29 ∧ v29 ≤ 60) → (zSK G s17) → (zFr [53] G s7 s17) → JJ X E 12 G s17 0 0 [(0, .ref a), (1, .ref b1), (2, .int (zI x2)), (3, .long (zL w23)), (5, .long (zL w26)), (7, .int (zI v27)), (8, .int (zI v28)), (9, .int (zI v15)), (10, .ref r17), (11, .int (zI v29))] 90 [] := by
                    intro m_c90_16
                    induction m_c90_16 with
                    | zero => intro w26 v27 v28 v29 s17 hm_c90_16 f18 f19 f20 f21 hS_s17 hF_s17; exfalso; omega
                    | succ m_c90_16 ih_c90_16 => 
                      intro w26 v27 v28 v29 s17 hm_c90_16 f18 f19 f20 f21 hS_s17 hF_s17
                      refine j_iload hx 9 dX0_pack_90 rfl ?_
                      refine j_aload hx 8 dX0_pack_92 rfl ?_
                      refine gN7_1 hx hG q18 kf_RX0_43 (v := (s0 r17 1)) (by rw [(zFr_g hF_s17 q18 (by decide)), (zFr_g hF_s7 q18 (by decide)), (zFr_g hF_s2 q18 (by decide))]) dX0_pack_94 ?_
                      have c169_24 : JJ X E 12 G s17 0 0 [(0, .ref a), (1, .ref b1), (2, .int (zI x2)), (3, .long (zL w23)), (5, .long (zL w26)), (7, .int (zI v27)), (8, .int (zI v28)), (9, .int (zI v15))] 169 [] := by
                        refine j_iinc hx 7 [(9, .int (zI (v15 + 1))), (0, .ref a), (1, .ref b1), (2, .int (zI x2)), (3, .long (zL w23)), (5, .long (zL w26)), (7, .int (zI v27)), (8, .int (zI v28))] dX0_pack_169 rfl (by omega) (by decide) rfl ?_
                        refine j_goto hx 57 dX0_pack_172 rfl ?_
                        exact j_sub [1, 2, 3, 4, 5, 6, 7, 0] [(0, .ref a), (1, .ref b1), (2, .int (zI x2)), (3, .long (zL w23)), (5, .long (zL w26)), (7, .int (zI v27)), (8, .int (zI v28)), (9, .int (zI (v15 + 1)))] rfl (ih_c57_6 w23 w26 v27 v28 (v15 + 1) s17 (by omega) (by omega) (by omega) (by omega) (by omega) (by omega) hS_s17 (zFr_t (zFr_t zFr_rf hF_s7 (by decide)) hF_s17 (by decide)))
                      refine j_icmp_ge hx 169 dX0_pack_97 rfl (by omega) (by omega) (fun h30 => ?_) (fun h30 => ?_)
                      · skip
                        exact j_sub [0, 1, 2, 3, 4, 5, 6, 7] [(0, .ref a), (1, .ref b1), (2, .int (zI x2)), (3, .long (zL w23)), (5, .long (zL w26)), (7, .int (zI v27)), (8, .int (zI v28)), (9, .int (zI v15))] rfl (c169_24  )
                      · skip
                        refine j_iload hx 9 dX0_pack_100 rfl ?_
                        refine j_aload hx 8 dX0_pack_102 rfl ?_
                        refine gN7_0 hx hG q18 kf_RX0_106 dX0_pack_104 ?_
                        refine j_alen hx hG (zr (k := 0) (t2 := 41) hG q18 rfl) (by decide) (by decide) (zlen hG (zr (k := 0) (t2 := 41) hG q18 rfl) (n := 60) rfl rfl) dX0_pack_107 ?_
                        refine j_icmp_ge hx 169 dX0_pack_108 rfl (by omega) ⟨by decide, by decide⟩ (fun h31 => absurd h31 (by omega)) (fun h31 => ?_)
                        refine j_iload hx 6 dX0_pack_111 rfl ?_
                        refine j_iconst hx dX0_pack_113 ?_
                        refine j_icmp_ge hx 169 dX0_pack_114 rfl (by omega) ⟨by decide, by decide⟩ (fun h32 => ?_) (fun h32 => ?_)
                        · skip
                          exact j_sub [0, 1, 2, 3, 4, 5, 6, 7] [(0, .ref a), (1, .ref b1), (2, .int (zI x2)), (3, .long (zL w23)), (5, .long (zL w26)), (7, .int (zI v27)), (8, .int (zI v28)), (9, .int (zI v15))] rfl (c169_24  )
                        · skip
                          refine j_lload hx 4 dX0_pack_117 rfl ?_
                          refine j_aload hx 8 dX0_pack_119 rfl ?_
                          refine gN7_0 hx hG q18 kf_RX0_106 dX0_pack_121 ?_
                          refine j_iload hx 9 dX0_pack_124 rfl ?_
                          have f33 := zaI (j := (v29).toNat) hS0 (zr (k := 0) (t2 := 41) hG q18 rfl) rfl (zlen hG (zr (k := 0) (t2 := 41) hG q18 rfl) (n := 60) rfl rfl) (show 0 ≤ v29 by omega) (by omega) rfl
                          refine j_iald hx hG (zr (k := 0) (t2 := 41) hG q18 rfl) (by decide) rfl (zlen hG (zr (k := 0) (t2 := 41) hG q18 rfl) (n := 60) rfl rfl) (by omega) (by omega) (j := (v29).toNat) rfl (v := (s0 (gP G r17 0) (v29).toNat)) (by rw [(zFr_g hF_s17 (zr (k := 0) (t2 := 41) hG q18 rfl) (by decide)), (zFr_g hF_s7 (zr (k := 0) (t2 := 41) hG q18 rfl) (by decide)), (zFr_g hF_s2 (zr (k := 0) (t2 := 41) hG q18 rfl) (by decide))]) dX0_pack_126 ?_
                          refine j_i2l hx dX0_pack_127 (by omega) ?_
                          refine j_iconst hx dX0_pack_128 ?_
                          refine j_iload hx 5 dX0_pack_129 rfl ?_
                          refine j_imul hx (r := 5 * v27) dX0_pack_131 rfl ?_
                          refine j_norm (fun v34 f35 f36 f37 => ?_)
                          refine j_lshl hx dX0_pack_132 (fun w38 f39 f40 => ?_)
                          refine j_lor hx dX0_pack_133 (fun w41 f42 f43 => ?_)
                          refine j_lstore hx [(5, .long (zL w41)), (0, .ref a), (1, .ref b1), (2, .int (zI x2)), (3, .long (zL w23)), (7, .int (zI v27)), (8, .int (zI v28)), (9, .int (zI v15)), (10, .ref r17), (11, .int (zI v29))] dX0_pack_134 (by decide) rfl ?_
                          refine j_aload_n hx 2 dX0_pack_136 rfl ?_
                          refine j_iload_n hx 3 dX0_pack_137 rfl ?_
                          refine j_iload hx 6 dX0_pack_138 rfl ?_
                          refine j_iadd hx (r := x2 + v28) dX0_pack_140 rfl ?_
                          refine j_lload hx 0 dX0_pack_141 rfl ?_
                          refine j_last hx hG hb1 (by decide) rfl rfl (by omega) (by omega) (j := (x2 + v28).toNat) rfl dX0_pack_143 ?_
                          obtain ⟨s25, e_s25⟩ : ∃ z, z = zU s17 b1 (x2 + v28).toNat w41 := ⟨_, rfl⟩
                          rw [← e_s25]
                          have hS_s25 : zSK G s25 := by rw [e_s25]; exact zSK_A hS_s17 hb1 rfl rfl rfl (by omega)
                          refine j_iincN hx 5 (fun v44 => [(7, .int (zI v44)), (5, .long (zL w41)), (0, .ref a), (1, .ref b1), (2, .int (zI x2)), (3, .long (zL w23)), (8, .int (zI v28)), (9, .int (zI v15)), (10, .ref r17), (11, .int (zI v29))]) dX0_pack_144 rfl (by decide) (fun _ => rfl) (fun v44 f45 f46 f47 => ?_)
                          refine j_iload hx 0 dX0_pack_147 rfl ?_
                          refine j_bipush hx dX0_pack_149 rfl ?_
                          have c163_26 : ∀ (w48 : Int) (v49 : Int) (v50 : Int), ((-9223372036854775808) ≤ w48 ∧ w48 ≤ 9223372036854775807) → ((-2147483648) ≤ v49 ∧ v49 ≤ 2147483647) → (0 ≤ v50 ∧ v50 ≤ 5) → JJ X E 12 G s25 0 0 [(0, .ref a), (1, .ref b1), (2, .int (zI x2)), (3, .long (zL w23)), (5, .long (zL w48)), (7, .int (zI v49)), (8, .int (zI v50)), (9, .int (zI v15)), (10, .ref r17), (11, .int (zI v29))] 163 [] := by
                            intro w48 v49 v50 f27 f28 f29
                            refine j_iinc hx 9 [(11, .int (zI (v29 + 1))), (0, .ref a), (1, .ref b1), (2, .int (zI x2)), (3, .long (zL w23)), (5, .long (zL w48)), (7, .int (zI v49)), (8, .int (zI v50)), (9, .int (zI v15)), (10, .ref r17)] dX0_pack_163 rfl (by omega) (by decide) rfl ?_
                            refine j_goto hx 90 dX0_pack_166 rfl ?_
                            exact j_sub [1, 2, 3, 4, 5, 6, 7, 8, 9, 0] [(0, .ref a), (1, .ref b1), (2, .int (zI x2)), (3, .long (zL w23)), (5, .long (zL w48)), (7, .int (zI v49)), (8, .int (zI v50)), (9, .int (zI v15)), (10, .ref r17), (11, .int (zI (v29 + 1)))] rfl (ih_c90_16 w48 v49 v50 (v29 + 1) s25 (by omega) (by omega) (by omega) (by omega) (by omega) hS_s25 (zFr_u (zFr_t zFr_rf hF_s17 (by decide)) e_s25 hb1 (by decide)))
                          refine j_icmp_ne hx 163 dX0_pack_151 rfl (by omega) ⟨by decide, by decide⟩ (fun h51 => ?_) (fun h51 => ?_)
                          · skip
                            exact j_sub [2, 3, 4, 5, 1, 0, 6, 7, 8, 9] [(0, .ref a), (1, .ref b1), (2, .int (zI x2)), (3, .long (zL w23)), (5, .long (zL w41)), (7, .int (zI v44)), (8, .int (zI v28)), (9, .int (zI v15)), (10, .ref r17), (11, .int (zI v29))] rfl (c163_26 w41 v44 v28 (by omega) (by omega) (by omega))
                          · skip
                            refine j_lconst hx dX0_pack_154 ?_
                            show JJ X E 12 G s25 0 0 [(7, .int (zI v44)), (5, .long (zL w41)), (0, .ref a), (1, .ref b1), (2, .int (zI x2)), (3, .long (zL w23)), (8, .int (zI v28)), (9, .int (zI v15)), (10, .ref r17), (11, .int (zI v29))] 155 [.long (zL 0)]
                            refine j_lstore hx [(5, .long (zL 0)), (7, .int (zI v44)), (0, .ref a), (1, .ref b1), (2, .int (zI x2)), (3, .long (zL w23)), (8, .int (zI v28)), (9, .int (zI v15)), (10, .ref r17), (11, .int (zI v29))] dX0_pack_155 (by decide) rfl ?_
                            refine j_iconst hx dX0_pack_157 ?_
                            refine j_istore hx [(7, .int (zI 0)), (5, .long (zL 0)), (0, .ref a), (1, .ref b1), (2, .int (zI x2)), (3, .long (zL w23)), (8, .int (zI v28)), (9, .int (zI v15)), (10, .ref r17), (11, .int (zI v29))] dX0_pack_158 (by decide) rfl ?_
                            refine j_iinc hx 6 [(8, .int (zI (v28 + 1))), (7, .int (zI 0)), (5, .long (zL 0)), (0, .ref a), (1, .ref b1), (2, .int (zI x2)), (3, .long (zL w23)), (9, .int (zI v15)), (10, .ref r17), (11, .int (zI v29))] dX0_pack_160 rfl (by omega) (by decide) rfl ?_
                            exact j_sub [3, 4, 5, 6, 2, 1, 0, 7, 8, 9] [(0, .ref a), (1, .ref b1), (2, .int (zI x2)), (3, .long (zL w23)), (5, .long (zL 0)), (7, .int (zI 0)), (8, .int (zI (v28 + 1))), (9, .int (zI v15)), (10, .ref r17), (11, .int (zI v29))] rfl (c163_26 0 0 (v28 + 1) (by omega) (by omega) (by omega))
                  exact j_sub [3, 4, 5, 1, 6, 7, 8, 9, 2, 0] [(0, .ref a), (1, .ref b1), (2, .int (zI x2)), (3, .long (zL w23)), (5, .long (zL w12)), (7, .int (zI v13)), (8, .int (zI v14)), (9, .int (zI v15)), (10, .ref r17), (11, .int (zI 0))] rfl (c90_16 (2147483648 * 4) w12 v13 v14 0 s7 (by omega) (by omega) (by omega) (by omega) (by omega) hS_s7 zFr_rf)
            exact j_sub [5, 6, 7, 4, 3, 2, 1, 0] [(0, .ref a), (1, .ref b1), (2, .int (zI x2)), (3, .long (zL w8)), (5, .long (zL 0)), (7, .int (zI 0)), (8, .int (zI 0)), (9, .int (zI 0))] rfl (c57_6 (2147483648 * 4) w8 0 0 0 0 s2 (by omega) (by omega) (by omega) (by omega) (by omega) (by omega) hS_s2 zFr_rf)
          · skip
            refine j_aload_n hx 1 dX0_pack_22 rfl ?_
            refine j_iload_n hx 2 dX0_pack_23 rfl ?_
            refine j_iload_n hx 3 dX0_pack_24 rfl ?_
            refine j_iadd hx (r := x2 + v4) dX0_pack_25 rfl ?_
            refine j_lconst hx dX0_pack_26 ?_
            show JJ X E 12 G s2 0 0 [(0, .ref a), (1, .ref b1), (2, .int (zI x2)), (3, .int (zI v4))] 27 [.long (zL 0), .int (zI (x2 + v4)), .ref b1]
            refine j_last hx hG hb1 (by decide) rfl rfl (by omega) (by omega) (j := (x2 + v4).toNat) rfl dX0_pack_27 ?_
            obtain ⟨s30, e_s30⟩ : ∃ z, z = zU s2 b1 (x2 + v4).toNat 0 := ⟨_, rfl⟩
            rw [← e_s30]
            have hS_s30 : zSK G s30 := by rw [e_s30]; exact zSK_A hS_s2 hb1 rfl rfl rfl (by omega)
            refine j_iinc hx 3 [(3, .int (zI (v4 + 1))), (0, .ref a), (1, .ref b1), (2, .int (zI x2))] dX0_pack_28 rfl (by omega) (by decide) rfl ?_
            refine j_goto hx 16 dX0_pack_31 rfl ?_
            exact j_sub [1, 2, 3, 0] [(0, .ref a), (1, .ref b1), (2, .int (zI x2)), (3, .int (zI (v4 + 1)))] rfl (ih_c16_1 (v4 + 1) s30 (by omega) (by omega) hS_s30 (zFr_u (zFr_t zFr_rf hF_s2 (by decide)) e_s30 hb1 (by decide)))
      exact j_sub [1, 2, 3, 0] [(0, .ref a), (1, .ref b1), (2, .int (zI x2)), (3, .int (zI 0))] rfl (c16_1 (2147483648 * 4) 0 s0 (by omega) (by omega) hS0 zFr_rf)
    · skip
      exact j_vret hx hq rfl (by decide) (by decide) dX0_pack_13 ⟨rfl, rfl, hS0, zFr_rf, trivial⟩

set_option maxHeartbeats 4000000 in
set_option maxRecDepth 20000 in
theorem c_X0_unpack {E : zE} {l : Launch} (hst : l.stackTraces = false) (a : Nat) (b1 : Nat) (x2 : Int) : Con E l yX0_unpack cX0_unpack 10 none { frames := 2, cells := 0, slots := 0, locals := 42 } (fun G s vs => vs = [.ref a, .ref b1, .int (zI x2)] ∧ zGK G ∧ zSK G s ∧ (gT G a = 1) ∧ (gT G b1 = 53) ∧ ((-2147483648) ≤ x2 ∧ x2 ≤ 2147483647)) (fun G s _ => pV (fun G2 s2 => G2 = G ∧ zSK G s2 ∧ zFr [1, 7, 41] G s s2 ∧ True)) := by
  refine Con.mk hst (by decide) (fun G s vs h => by rw [h.1]; exact Nat.le_of_ble_eq_true rfl) ?_
  rintro X G s0 vs ⟨rfl, hG, hS0, ha, hb1, hx2⟩ rfl hx hq
  show JJ X E 10 G s0 0 0 [(0, .ref a), (1, .ref b1), (2, .int (zI x2))] 0 []
  refine j_iload_n hx 2 dX0_unpack_0 rfl ?_
  refine j_if_lt hx 13 dX0_unpack_1 rfl (by omega) (fun h1 => ?_) (fun h1 => ?_)
  · skip
    exact j_vret hx hq rfl (by decide) (by decide) dX0_unpack_13 ⟨rfl, rfl, hS0, zFr_rf, trivial⟩
  · skip
    refine j_iload_n hx 2 dX0_unpack_4 rfl ?_
    refine j_aload_n hx 1 dX0_unpack_5 rfl ?_
    have f2 := znb hG b1
    refine j_alen hx hG hb1 (by decide) (by decide) rfl dX0_unpack_6 ?_
    refine j_bipush hx dX0_unpack_7 rfl ?_
    refine j_isub hx (r := (gN G b1 : Int) - 7) dX0_unpack_9 (by omega) ?_
    refine j_icmp_le hx 14 dX0_unpack_10 rfl (by omega) (by omega) (fun h3 => ?_) (fun h3 => ?_)
    · skip
      refine j_aload_n hx 1 dX0_unpack_14 rfl ?_
      refine j_iload_n hx 2 dX0_unpack_15 rfl ?_
      refine j_iconst hx dX0_unpack_16 ?_
      refine j_iadd hx (r := x2 + 5) dX0_unpack_17 rfl ?_
      have f4 := zaI (j := (x2 + 5).toNat) hS0 hb1 rfl rfl (show 0 ≤ x2 + 5 by omega) (by omega) rfl
      refine j_lald hx hG hb1 (by decide) rfl rfl (by omega) (by omega) (j := (x2 + 5).toNat) rfl rfl dX0_unpack_18 ?_
      refine j_lstore_n hx [(3, .long (zL ((s0 b1 (x2 + 5).toNat)))), (0, .ref a), (1, .ref b1), (2, .int (zI x2))] dX0_unpack_19 (by decide) rfl ?_
      refine j_iconst hx dX0_unpack_20 ?_
      refine j_istore hx [(5, .int (zI 0)), (3, .long (zL ((s0 b1 (x2 + 5).toNat)))), (0, .ref a), (1, .ref b1), (2, .int (zI x2))] dX0_unpack_21 (by decide) rfl ?_
      refine j_iconst hx dX0_unpack_23 ?_
      refine j_istore hx [(6, .int (zI 0)), (5, .int (zI 0)), (3, .long (zL ((s0 b1 (x2 + 5).toNat)))), (0, .ref a), (1, .ref b1), (2, .int (zI x2))] dX0_unpack_24 (by decide) rfl ?_
      have c26_1 : ∀ (m_c26_1 : Nat) (v5 : Int) (v6 : Int) (s2 : zS), 2147483648 - v6 < m_c26_1 → (0 ≤ v5 ∧ v5 ≤ 60) → (0 ≤ v6 ∧ v6 ≤ 7) → (zSK G s2) → (zFr [7, 41] G s0 s2) → JJ X E 10 G s2 0 0 [(0, .ref a), (1, .ref b1), (2, .int (zI x2)), (3, .long (zL ((s0 b1 (x2 + 5).toNat)))), (5, .int (zI v5)), (6, .int (zI v6))] 26 [] := by
        intro m_c26_1
        induction m_c26_1 with
        | zero => intro v5 v6 s2 hm_c26_1 f3 f4 hS_s2 hF_s2; exfalso; omega
        | succ m_c26_1 ih_c26_1 => 
          intro v5 v6 s2 hm_c26_1 f3 f4 hS_s2 hF_s2
          refine j_iload hx 5 dX0_unpack_26 rfl ?_
          refine j_bipush hx dX0_unpack_28 rfl ?_
          refine j_icmp_ge hx 118 dX0_unpack_30 rfl (by omega) ⟨by decide, by decide⟩ (fun h7 => ?_) (fun h7 => ?_)
          · skip
            refine j_aload_n hx 0 dX0_unpack_118 rfl ?_
            refine j_iconst hx dX0_unpack_119 ?_
            refine j_lload_n hx 3 dX0_unpack_120 rfl ?_
            refine j_bipush hx dX0_unpack_121 rfl ?_
            refine j_lushr hx dX0_unpack_123 (fun w8 f9 f10 => ?_)
            refine j_l2i hx dX0_unpack_124 (by omega) (fun v11 f12 f13 f14 => ?_)
            refine j_iconst hx dX0_unpack_125 ?_
            refine j_iand hx dX0_unpack_126 (by omega) ⟨by decide, by decide⟩ (fun v15 f16 f17 f18 f19 _ => ?_)
            refine j_iconst hx dX0_unpack_127 ?_
            refine j_isub hx (r := v15 - 1) dX0_unpack_128 rfl ?_
            refine j_mmax hx km_RX0_110 kst_max kn_RJ9 kc_Lib_Math_max_name ⟨by decide, by decide⟩ (by omega) ⟨by decide, Nat.le_of_ble_eq_true rfl⟩ ⟨by decide, by decide⟩ dX0_unpack_129 (fun v21 f22 f23 f24 => ?_)
            refine p1_8 hx hG ha kf_RX0_53 dX0_unpack_132 ?_
            obtain ⟨s7, e_s7⟩ : ∃ z, z = zU s2 a 8 v21 := ⟨_, rfl⟩
            rw [← e_s7]
            have hS_s7 : zSK G s7 := by rw [e_s7]; exact zSK_F hS_s2 ha rfl rfl rfl (by omega)
            exact j_vret hx hq rfl (by decide) (by decide) dX0_unpack_135 ⟨rfl, rfl, hS_s7, (zFr_u (zFr_t zFr_rf hF_s2 (by decide)) e_s7 ha (by decide)), trivial⟩
          · skip
            refine j_aload_n hx 0 dX0_unpack_33 rfl ?_
            refine j_iload hx 5 dX0_unpack_34 rfl ?_
            refine j_callV hx hG (c_X0_pileOf hst a v6) lk_RX0_47 ha (by decide) rfl rfl rfl rfl [.int (zI v6)] ⟨rfl, hG, hS_s2, ha, (by omega)⟩ rfl rfl ⟨by decide, by decide⟩ ⟨by decide, by decide⟩ (k2 := 0) (n2 := 0) rfl rfl (Nat.le_of_ble_eq_true rfl) dX0_unpack_36 (kRP (fun r25 q26 => ?_))
            refine j_astore hx [(7, .ref r25), (0, .ref a), (1, .ref b1), (2, .int (zI x2)), (3, .long (zL ((s0 b1 (x2 + 5).toNat)))), (5, .int (zI v5)), (6, .int (zI v6))] dX0_unpack_39 (by decide) rfl ?_
            refine j_lload_n hx 4 dX0_unpack_41 rfl ?_
            refine j_bipush hx dX0_unpack_42 rfl ?_
            refine j_iload hx 6 dX0_unpack_44 rfl ?_
            refine j_imul hx (r := 6 * v6) dX0_unpack_46 rfl ?_
            refine j_lushr hx dX0_unpack_47 (fun w27 f28 f29 => ?_)
            refine j_l2i hx dX0_unpack_48 (by omega) (fun v30 f31 f32 f33 => ?_)
            refine j_bipush hx dX0_unpack_49 rfl ?_
            refine j_iand hx dX0_unpack_51 (by omega) ⟨by decide, by decide⟩ (fun v34 f35 f36 f37 f38 _ => ?_)
            refine j_istore hx [(8, .int (zI v34)), (7, .ref r25), (0, .ref a), (1, .ref b1), (2, .int (zI x2)), (3, .long (zL ((s0 b1 (x2 + 5).toNat)))), (5, .int (zI v5)), (6, .int (zI v6))] dX0_unpack_52 (by decide) rfl ?_
            refine j_aload hx 1 dX0_unpack_54 rfl ?_
            refine j_iconst hx dX0_unpack_56 ?_
            refine pN7_1 hx hG q26 kf_RX0_43 dX0_unpack_57 ?_
            obtain ⟨s8, e_s8⟩ : ∃ z, z = zU s2 r25 1 0 := ⟨_, rfl⟩
            rw [← e_s8]
            have hS_s8 : zSK G s8 := by rw [e_s8]; exact zSK_F hS_s2 q26 rfl rfl rfl (by omega)
            refine j_iconst hx dX0_unpack_60 ?_
            refine j_istore hx [(9, .int (zI 0)), (8, .int (zI v34)), (7, .ref r25), (0, .ref a), (1, .ref b1), (2, .int (zI x2)), (3, .long (zL ((s0 b1 (x2 + 5).toNat)))), (5, .int (zI v5)), (6, .int (zI v6))] dX0_unpack_61 (by decide) rfl ?_
            have c63_9 : ∀ (m_c63_9 : Nat) (v40 : Int) (v41 : Int) (s10 : zS), 2147483648 - v41 < m_c63_9 → (0 ≤ v40 ∧ v40 ≤ 60) → (0 ≤ v41 ∧ v41 ≤ 63) → (zSK G s10) → (zFr [7, 41] G s8 s10) → JJ X E 10 G s10 0 0 [(0, .ref a), (1, .ref b1), (2, .int (zI x2)), (3, .long (zL ((s0 b1 (x2 + 5).toNat)))), (5, .int (zI v40)), (6, .int (zI v6)), (7, .ref r25), (8, .int (zI v34)), (9, .int (zI v41))] 63 [] := by
              intro m_c63_9
              induction m_c63_9 with
              | zero => intro v40 v41 s10 hm_c63_9 f11 f12 hS_s10 hF_s10; exfalso; omega
              | succ m_c63_9 ih_c63_9 => 
                intro v40 v41 s10 hm_c63_9 f11 f12 hS_s10 hF_s10
                refine j_iload hx 8 dX0_unpack_63 rfl ?_
                refine j_iload hx 7 dX0_unpack_65 rfl ?_
                have c112_15 : JJ X E 10 G s10 0 0 [(0, .ref a), (1, .ref b1), (2, .int (zI x2)), (3, .long (zL ((s0 b1 (x2 + 5).toNat)))), (5, .int (zI v40)), (6, .int (zI v6))] 112 [] := by
                  refine j_iinc hx 5 [(6, .int (zI (v6 + 1))), (0, .ref a), (1, .ref b1), (2, .int (zI x2)), (3, .long (zL ((s0 b1 (x2 + 5).toNat)))), (5, .int (zI v40))] dX0_unpack_112 rfl (by omega) (by decide) rfl ?_
                  refine j_goto hx 26 dX0_unpack_115 rfl ?_
                  exact j_sub [1, 2, 3, 4, 5, 0] [(0, .ref a), (1, .ref b1), (2, .int (zI x2)), (3, .long (zL ((s0 b1 (x2 + 5).toNat)))), (5, .int (zI v40)), (6, .int (zI (v6 + 1)))] rfl (ih_c26_1 v40 (v6 + 1) s10 (by omega) (by omega) (by omega) hS_s10 (zFr_t (zFr_u (zFr_t zFr_rf hF_s2 (by decide)) e_s8 q26 (by decide)) hF_s10 (by decide)))
                refine j_icmp_ge hx 112 dX0_unpack_67 rfl (by omega) (by omega) (fun h42 => ?_) (fun h42 => ?_)
                · skip
                  exact j_sub [0, 1, 2, 3, 4, 5] [(0, .ref a), (1, .ref b1), (2, .int (zI x2)), (3, .long (zL ((s0 b1 (x2 + 5).toNat)))), (5, .int (zI v40)), (6, .int (zI v6))] rfl (c112_15  )
                · skip
                  refine j_iload hx 4 dX0_unpack_70 rfl ?_
                  refine j_bipush hx dX0_unpack_72 rfl ?_
                  refine j_icmp_ge hx 112 dX0_unpack_74 rfl (by omega) ⟨by decide, by decide⟩ (fun h43 => ?_) (fun h43 => ?_)
                  · skip
                    exact j_sub [0, 1, 2, 3, 4, 5] [(0, .ref a), (1, .ref b1), (2, .int (zI x2)), (3, .long (zL ((s0 b1 (x2 + 5).toNat)))), (5, .int (zI v40)), (6, .int (zI v6))] rfl (c112_15  )
                  · skip
                    refine j_aload hx 6 dX0_unpack_77 rfl ?_
                    refine j_aload_n hx 1 dX0_unpack_79 rfl ?_
                    refine j_iload_n hx 2 dX0_unpack_80 rfl ?_
                    refine j_iload hx 4 dX0_unpack_81 rfl ?_
                    refine j_bipush hx dX0_unpack_83 rfl ?_
                    refine j_idiv hx dX0_unpack_85 (by omega) ⟨by decide, by decide⟩ (by decide) (fun v44 f45 f46 f47 => ?_)
                    refine j_iadd hx (r := x2 + v44) dX0_unpack_86 rfl ?_
                    have f50 := zaI (j := (x2 + v44).toNat) hS0 hb1 rfl rfl (show 0 ≤ x2 + v44 by omega) (by omega) rfl
                    refine j_lald hx hG hb1 (by decide) rfl rfl (by omega) (by omega) (j := (x2 + v44).toNat) rfl (v := (s0 b1 (x2 + v44).toNat)) (by rw [(zFr_g hF_s10 hb1 (by decide)), e_s8, zU_at (Or.inl (zne q26 hb1 (by decide))), (zFr_g hF_s2 hb1 (by decide))]) dX0_unpack_87 ?_
                    refine j_iconst hx dX0_unpack_88 ?_
                    refine j_iload hx 4 dX0_unpack_89 rfl ?_
                    refine j_bipush hx dX0_unpack_91 rfl ?_
                    refine j_irem hx dX0_unpack_93 (by omega) ⟨by decide, by decide⟩ (by decide) (fun v51 f52 f53 f54 f55 => ?_)
                    refine j_imul hx (r := 5 * v51) dX0_unpack_94 rfl ?_
                    refine j_lushr hx dX0_unpack_95 (fun w57 f58 f59 => ?_)
                    refine j_l2i hx dX0_unpack_96 (by omega) (fun v60 f61 f62 f63 => ?_)
                    refine j_bipush hx dX0_unpack_97 rfl ?_
                    refine j_iand hx dX0_unpack_99 (by omega) ⟨by decide, by decide⟩ (fun v64 f65 f66 f67 f68 _ => ?_)
                    refine j_callV hx hG (c_X6_put hst r25 v64) lk_RX0_88 q26 (by decide) rfl rfl rfl rfl [.int (zI v64)] ⟨rfl, hG, hS_s10, q26, (by omega)⟩ rfl rfl ⟨by decide, by decide⟩ ⟨by decide, by decide⟩ (k2 := 0) (n2 := 0) rfl rfl (Nat.le_of_ble_eq_true rfl) dX0_unpack_100 (kVM (fun s16 hS_s16 hF_s16 q71 => ?_))
                    refine j_iinc hx 4 [(5, .int (zI (v40 + 1))), (0, .ref a), (1, .ref b1), (2, .int (zI x2)), (3, .long (zL ((s0 b1 (x2 + 5).toNat)))), (6, .int (zI v6)), (7, .ref r25), (8, .int (zI v34)), (9, .int (zI v41))] dX0_unpack_103 rfl (by omega) (by decide) rfl ?_
                    refine j_iinc hx 8 [(9, .int (zI (v41 + 1))), (5, .int (zI (v40 + 1))), (0, .ref a), (1, .ref b1), (2, .int (zI x2)), (3, .long (zL ((s0 b1 (x2 + 5).toNat)))), (6, .int (zI v6)), (7, .ref r25), (8, .int (zI v34))] dX0_unpack_106 rfl (by omega) (by decide) rfl ?_
                    refine j_goto hx 63 dX0_unpack_109 rfl ?_
                    exact j_sub [2, 3, 4, 5, 1, 6, 7, 8, 0] [(0, .ref a), (1, .ref b1), (2, .int (zI x2)), (3, .long (zL ((s0 b1 (x2 + 5).toNat)))), (5, .int (zI (v40 + 1))), (6, .int (zI v6)), (7, .ref r25), (8, .int (zI v34)), (9, .int (zI (v41 + 1)))] rfl (ih_c63_9 (v40 + 1) (v41 + 1) s16 (by omega) (by omega) (by omega) hS_s16 (zFr_t (zFr_t zFr_rf hF_s10 (by decide)) hF_s16 (by decide)))
            exact j_sub [3, 4, 5, 6, 7, 8, 2, 1, 0] [(0, .ref a), (1, .ref b1), (2, .int (zI x2)), (3, .long (zL ((s0 b1 (x2 + 5).toNat)))), (5, .int (zI v5)), (6, .int (zI v6)), (7, .ref r25), (8, .int (zI v34)), (9, .int (zI 0))] rfl (c63_9 (2147483648 * 4) v5 0 s8 (by omega) (by omega) (by omega) hS_s8 zFr_rf)
      exact j_sub [3, 4, 5, 2, 1, 0] [(0, .ref a), (1, .ref b1), (2, .int (zI x2)), (3, .long (zL ((s0 b1 (x2 + 5).toNat)))), (5, .int (zI 0)), (6, .int (zI 0))] rfl (c26_1 (2147483648 * 4) 0 0 s0 (by omega) (by omega) (by omega) hS0 zFr_rf)
    · skip
      exact j_vret hx hq rfl (by decide) (by decide) dX0_unpack_13 ⟨rfl, rfl, hS0, zFr_rf, trivial⟩
