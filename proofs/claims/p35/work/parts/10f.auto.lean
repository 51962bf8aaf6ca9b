set_option maxHeartbeats 1200000 in
set_option maxRecDepth 20000 in
theorem c_X12_within {E : zE} {l : Launch} (hst : l.stackTraces = false) (x0 : Int) (x1 : Int) (x2 : Int) : Con E l yX12_within cX12_within 3 (some .boolean) { frames := 0, cells := 0, slots := 0, locals := 0 } (fun G s vs => vs = [.int (zI x0), .int (zI x1), .int (zI x2)] ∧ zGK G ∧ zSK G s ∧ ((-2147483648) ≤ x0 ∧ x0 ≤ 2147483647) ∧ ((-2147483648) ≤ x1 ∧ x1 ≤ 2147483647) ∧ ((-2147483648) ≤ x2 ∧ x2 ≤ 2147483647)) (fun G s _ => pI (fun r G2 s2 => G2 = G ∧ s2 = s ∧ (0 ≤ r ∧ r ≤ 1) ∧ ((r = 1 → x1 ≤ x0 ∧ x0 ≤ x2) ∧ (r = 0 → x0 < x1 ∨ x2 < x0)))) := by
  refine Con.mk hst (by decide) (fun G s vs h => by rw [h.1]; exact Nat.le_of_ble_eq_true rfl) ?_
  rintro X G s0 vs ⟨rfl, hG, hS0, hx0, hx1, hx2⟩ rfl hx hq
  show JJ X E 3 G s0 0 0 [(0, .int (zI x0)), (1, .int (zI x1)), (2, .int (zI x2))] 0 []
  refine j_iload_n hx 0 dX12_within_0 rfl ?_
  refine j_iload_n hx 1 dX12_within_1 rfl ?_
  refine j_icmp_lt hx 14 dX12_within_2 rfl (by omega) (by omega) (fun h1 => ?_) (fun h1 => ?_)
  · skip
    refine j_iconst hx dX12_within_14 ?_
    exact j_zret hx hq rfl (by decide) (by decide) dX12_within_15 (by omega) ⟨0, rfl, rfl, rfl, ⟨(by omega), by omega⟩⟩
  · skip
    refine j_iload_n hx 0 dX12_within_5 rfl ?_
    refine j_iload_n hx 2 dX12_within_6 rfl ?_
    refine j_icmp_gt hx 14 dX12_within_7 rfl (by omega) (by omega) (fun h2 => ?_) (fun h2 => ?_)
    · skip
      refine j_iconst hx dX12_within_14 ?_
      exact j_zret hx hq rfl (by decide) (by decide) dX12_within_15 (by omega) ⟨0, rfl, rfl, rfl, ⟨(by omega), by omega⟩⟩
    · skip
      refine j_iconst hx dX12_within_10 ?_
      refine j_goto hx 15 dX12_within_11 rfl ?_
      exact j_zret hx hq rfl (by decide) (by decide) dX12_within_15 (by omega) ⟨1, rfl, rfl, rfl, ⟨(by omega), by omega⟩⟩
