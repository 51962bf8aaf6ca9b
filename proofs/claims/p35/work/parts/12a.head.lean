theorem rw_1 : rawT 21 := ⟨fun _ => rfl, fun _ => rfl, rfl, fun _ => rfl, fun _ => rfl⟩
theorem cl_1 : zCls 1 := ⟨fun k hk => ⟨(by unfold rq; first | rfl | (simp only []; split <;> first | rfl | (exfalso; revert hk; decide))), (by unfold fq; first | rfl | (simp only []; split <;> first | rfl | (exfalso; revert hk; decide))), (by unfold f0; first | rfl | (simp only []; split <;> first | rfl | (exfalso; revert hk; decide)))⟩, rfl, fun _ => rfl, fun _ => rfl, rfl, rfl, rfl, rfl, rfl⟩
def fs_1 : List Value := [zV 3 0 0, zV 3 0 0, zV 3 0 0, zV 3 0 0, zV 3 0 0, zV 3 0 0, zV 3 0 0, zV 0 0 0, zV 0 0 0]
theorem hf_1 : ∀ j, j < 9 → defaultValue (tyX0 j) = vp_V fs_1 j := fun j hj => by
  rcases (show j = 0 ∨ j = 1 ∨ j = 2 ∨ j = 3 ∨ j = 4 ∨ j = 5 ∨ j = 6 ∨ j = 7 ∨ j = 8 by omega) with rfl | rfl | rfl | rfl | rfl | rfl | rfl | rfl | rfl
  all_goals rfl
theorem he_1 {E : zE} : ∀ r : Nat → Nat, zC E 21 0 r (fun _ => 0) = .inr (0, fs_1) := fun _ => rfl
theorem ar_21_0 : zArr 21 0 := ⟨by decide, fun _ => rfl, fun m h => (by cases h), by decide, fun _ => rfl, fun k r h => (by cases h), fun _ => rfl, fun k v h => (by cases h)⟩
theorem rw_2 : rawT 22 := ⟨fun _ => rfl, fun _ => rfl, rfl, fun _ => rfl, fun _ => rfl⟩
theorem cl_2 : zCls 2 := ⟨fun k hk => ⟨(by unfold rq; first | rfl | (simp only []; split <;> first | rfl | (exfalso; revert hk; decide))), (by unfold fq; first | rfl | (simp only []; split <;> first | rfl | (exfalso; revert hk; decide))), (by unfold f0; first | rfl | (simp only []; split <;> first | rfl | (exfalso; revert hk; decide)))⟩, rfl, fun _ => rfl, fun _ => rfl, rfl, rfl, rfl, rfl, rfl⟩
def fs_2 : List Value := [zV 3 0 0, zV 3 0 0, zV 0 0 0]
theorem hf_2 : ∀ j, j < 3 → defaultValue (tyX1 j) = vp_V fs_2 j := fun j hj => by
  rcases (show j = 0 ∨ j = 1 ∨ j = 2 by omega) with rfl | rfl | rfl
  all_goals rfl
theorem he_2 {E : zE} : ∀ r : Nat → Nat, zC E 22 0 r (fun _ => 0) = .inr (1, fs_2) := fun _ => rfl
theorem ar_22_0 : zArr 22 0 := ⟨by decide, fun _ => rfl, fun m h => (by cases h), by decide, fun _ => rfl, fun k r h => (by cases h), fun _ => rfl, fun k v h => (by cases h)⟩
theorem rw_3 : rawT 23 := ⟨fun _ => rfl, fun _ => rfl, rfl, fun _ => rfl, fun _ => rfl⟩
theorem cl_3 : zCls 3 := ⟨fun k hk => ⟨(by unfold rq; first | rfl | (simp only []; split <;> first | rfl | (exfalso; revert hk; decide))), (by unfold fq; first | rfl | (simp only []; split <;> first | rfl | (exfalso; revert hk; decide))), (by unfold f0; first | rfl | (simp only []; split <;> first | rfl | (exfalso; revert hk; decide)))⟩, rfl, fun _ => rfl, fun _ => rfl, rfl, rfl, rfl, rfl, rfl⟩
def fs_3 : List Value := [zV 3 0 0, zV 3 0 0, zV 3 0 0, zV 3 0 0, zV 0 0 0, zV 0 0 0, zV 0 0 0, zV 0 0 0]
theorem hf_3 : ∀ j, j < 8 → defaultValue (tyX2 j) = vp_V fs_3 j := fun j hj => by
  rcases (show j = 0 ∨ j = 1 ∨ j = 2 ∨ j = 3 ∨ j = 4 ∨ j = 5 ∨ j = 6 ∨ j = 7 by omega) with rfl | rfl | rfl | rfl | rfl | rfl | rfl | rfl
  all_goals rfl
theorem he_3 {E : zE} : ∀ r : Nat → Nat, zC E 23 0 r (fun _ => 0) = .inr (2, fs_3) := fun _ => rfl
theorem ar_23_0 : zArr 23 0 := ⟨by decide, fun _ => rfl, fun m h => (by cases h), by decide, fun _ => rfl, fun k r h => (by cases h), fun _ => rfl, fun k v h => (by cases h)⟩
theorem rw_4 : rawT 24 := ⟨fun _ => rfl, fun _ => rfl, rfl, fun _ => rfl, fun _ => rfl⟩
theorem cl_4 : zCls 4 := ⟨fun k hk => ⟨(by unfold rq; first | rfl | (simp only []; split <;> first | rfl | (exfalso; revert hk; decide))), (by unfold fq; first | rfl | (simp only []; split <;> first | rfl | (exfalso; revert hk; decide))), (by unfold f0; first | rfl | (simp only []; split <;> first | rfl | (exfalso; revert hk; decide)))⟩, rfl, fun _ => rfl, fun _ => rfl, rfl, rfl, rfl, rfl, rfl⟩
def fs_4 : List Value := [zV 3 0 0, zV 3 0 0, zV 3 0 0, zV 3 0 0, zV 3 0 0, zV 3 0 0, zV 3 0 0, zV 0 0 0, zV 0 0 0, zV 0 0 0, zV 0 0 0, zV 0 0 0, zV 0 0 0, zV 0 0 0]
theorem hf_4 : ∀ j, j < 14 → defaultValue (tyX3 j) = vp_V fs_4 j := fun j hj => by
  rcases (show j = 0 ∨ j = 1 ∨ j = 2 ∨ j = 3 ∨ j = 4 ∨ j = 5 ∨ j = 6 ∨ j = 7 ∨ j = 8 ∨ j = 9 ∨ j = 10 ∨ j = 11 ∨ j = 12 ∨ j = 13 by omega) with rfl | rfl | rfl | rfl | rfl | rfl | rfl | rfl | rfl | rfl | rfl | rfl | rfl | rfl
  all_goals rfl
theorem he_4 {E : zE} : ∀ r : Nat → Nat, zC E 24 0 r (fun _ => 0) = .inr (3, fs_4) := fun _ => rfl
theorem ar_24_0 : zArr 24 0 := ⟨by decide, fun _ => rfl, fun m h => (by cases h), by decide, fun _ => rfl, fun k r h => (by cases h), fun _ => rfl, fun k v h => (by cases h)⟩
theorem rw_5 : rawT 25 := ⟨fun _ => rfl, fun _ => rfl, rfl, fun _ => rfl, fun _ => rfl⟩
theorem cl_5 : zCls 5 := ⟨fun k hk => ⟨(by unfold rq; first | rfl | (simp only []; split <;> first | rfl | (exfalso; revert hk; decide))), (by unfold fq; first | rfl | (simp only []; split <;> first | rfl | (exfalso; revert hk; decide))), (by unfold f0; first | rfl | (simp only []; split <;> first | rfl | (exfalso; revert hk; decide)))⟩, rfl, fun _ => rfl, fun _ => rfl, rfl, rfl, rfl, rfl, rfl⟩
def fs_5 : List Value := [zV 3 0 0, zV 3 0 0, zV 3 0 0, zV 3 0 0, zV 0 0 0, zV 0 0 0]
theorem hf_5 : ∀ j, j < 6 → defaultValue (tyX4 j) = vp_V fs_5 j := fun j hj => by
  rcases (show j = 0 ∨ j = 1 ∨ j = 2 ∨ j = 3 ∨ j = 4 ∨ j = 5 by omega) with rfl | rfl | rfl | rfl | rfl | rfl
  all_goals rfl
theorem he_5 {E : zE} : ∀ r : Nat → Nat, zC E 25 0 r (fun _ => 0) = .inr (4, fs_5) := fun _ => rfl
theorem ar_25_0 : zArr 25 0 := ⟨by decide, fun _ => rfl, fun m h => (by cases h), by decide, fun _ => rfl, fun k r h => (by cases h), fun _ => rfl, fun k v h => (by cases h)⟩
theorem rw_6 : rawT 26 := ⟨fun _ => rfl, fun _ => rfl, rfl, fun _ => rfl, fun _ => rfl⟩
theorem cl_6 : zCls 6 := ⟨fun k hk => ⟨(by unfold rq; first | rfl | (simp only []; split <;> first | rfl | (exfalso; revert hk; decide))), (by unfold fq; first | rfl | (simp only []; split <;> first | rfl | (exfalso; revert hk; decide))), (by unfold f0; first | rfl | (simp only []; split <;> first | rfl | (exfalso; revert hk; decide)))⟩, rfl, fun _ => rfl, fun _ => rfl, rfl, rfl, rfl, rfl, rfl⟩
def fs_6 : List Value := [zV 3 0 0, zV 3 0 0, zV 3 0 0]
theorem hf_6 : ∀ j, j < 3 → defaultValue (tyX5 j) = vp_V fs_6 j := fun j hj => by
  rcases (show j = 0 ∨ j = 1 ∨ j = 2 by omega) with rfl | rfl | rfl
  all_goals rfl
theorem he_6 {E : zE} : ∀ r : Nat → Nat, zC E 26 0 r (fun _ => 0) = .inr (5, fs_6) := fun _ => rfl
theorem ar_26_0 : zArr 26 0 := ⟨by decide, fun _ => rfl, fun m h => (by cases h), by decide, fun _ => rfl, fun k r h => (by cases h), fun _ => rfl, fun k v h => (by cases h)⟩
theorem rw_7 : rawT 27 := ⟨fun _ => rfl, fun _ => rfl, rfl, fun _ => rfl, fun _ => rfl⟩
theorem cl_7 : zCls 7 := ⟨fun k hk => ⟨(by unfold rq; first | rfl | (simp only []; split <;> first | rfl | (exfalso; revert hk; decide))), (by unfold fq; first | rfl | (simp only []; split <;> first | rfl | (exfalso; revert hk; decide))), (by unfold f0; first | rfl | (simp only []; split <;> first | rfl | (exfalso; revert hk; decide)))⟩, rfl, fun _ => rfl, fun _ => rfl, rfl, rfl, rfl, rfl, rfl⟩
def fs_7 : List Value := [zV 3 0 0, zV 0 0 0]
theorem hf_7 : ∀ j, j < 2 → defaultValue (tyX6 j) = vp_V fs_7 j := fun j hj => by
  rcases (show j = 0 ∨ j = 1 by omega) with rfl | rfl
  all_goals rfl
theorem he_7 {E : zE} : ∀ r : Nat → Nat, zC E 27 0 r (fun _ => 0) = .inr (6, fs_7) := fun _ => rfl
theorem ar_27_0 : zArr 27 0 := ⟨by decide, fun _ => rfl, fun m h => (by cases h), by decide, fun _ => rfl, fun k r h => (by cases h), fun _ => rfl, fun k v h => (by cases h)⟩
theorem rw_8 : rawT 28 := ⟨fun _ => rfl, fun _ => rfl, rfl, fun _ => rfl, fun _ => rfl⟩
theorem cl_8 : zCls 8 := ⟨fun k hk => ⟨(by unfold rq; first | rfl | (simp only []; split <;> first | rfl | (exfalso; revert hk; decide))), (by unfold fq; first | rfl | (simp only []; split <;> first | rfl | (exfalso; revert hk; decide))), (by unfold f0; first | rfl | (simp only []; split <;> first | rfl | (exfalso; revert hk; decide)))⟩, rfl, fun _ => rfl, fun _ => rfl, rfl, rfl, rfl, rfl, rfl⟩
def fs_8 : List Value := [zV 3 0 0, zV 0 0 0]
theorem hf_8 : ∀ j, j < 2 → defaultValue (tyX7 j) = vp_V fs_8 j := fun j hj => by
  rcases (show j = 0 ∨ j = 1 by omega) with rfl | rfl
  all_goals rfl
theorem he_8 {E : zE} : ∀ r : Nat → Nat, zC E 28 0 r (fun _ => 0) = .inr (7, fs_8) := fun _ => rfl
theorem ar_28_0 : zArr 28 0 := ⟨by decide, fun _ => rfl, fun m h => (by cases h), by decide, fun _ => rfl, fun k r h => (by cases h), fun _ => rfl, fun k v h => (by cases h)⟩
theorem rw_9 : rawT 29 := ⟨fun _ => rfl, fun _ => rfl, rfl, fun _ => rfl, fun _ => rfl⟩
theorem cl_9 : zCls 9 := ⟨fun k hk => ⟨(by unfold rq; first | rfl | (simp only []; split <;> first | rfl | (exfalso; revert hk; decide))), (by unfold fq; first | rfl | (simp only []; split <;> first | rfl | (exfalso; revert hk; decide))), (by unfold f0; first | rfl | (simp only []; split <;> first | rfl | (exfalso; revert hk; decide)))⟩, rfl, fun _ => rfl, fun _ => rfl, rfl, rfl, rfl, rfl, rfl⟩
def fs_9 : List Value := [zV 3 0 0, zV 3 0 0, zV 3 0 0, zV 3 0 0, zV 0 0 0, zV 0 0 0]
theorem hf_9 : ∀ j, j < 6 → defaultValue (tyX8 j) = vp_V fs_9 j := fun j hj => by
  rcases (show j = 0 ∨ j = 1 ∨ j = 2 ∨ j = 3 ∨ j = 4 ∨ j = 5 by omega) with rfl | rfl | rfl | rfl | rfl | rfl
  all_goals rfl
theorem he_9 {E : zE} : ∀ r : Nat → Nat, zC E 29 0 r (fun _ => 0) = .inr (8, fs_9) := fun _ => rfl
theorem ar_29_0 : zArr 29 0 := ⟨by decide, fun _ => rfl, fun m h => (by cases h), by decide, fun _ => rfl, fun k r h => (by cases h), fun _ => rfl, fun k v h => (by cases h)⟩
theorem rw_10 : rawT 30 := ⟨fun _ => rfl, fun _ => rfl, rfl, fun _ => rfl, fun _ => rfl⟩
theorem cl_10 : zCls 10 := ⟨fun k hk => ⟨(by unfold rq; first | rfl | (simp only []; split <;> first | rfl | (exfalso; revert hk; decide))), (by unfold fq; first | rfl | (simp only []; split <;> first | rfl | (exfalso; revert hk; decide))), (by unfold f0; first | rfl | (simp only []; split <;> first | rfl | (exfalso; revert hk; decide)))⟩, rfl, fun _ => rfl, fun _ => rfl, rfl, rfl, rfl, rfl, rfl⟩
def fs_10 : List Value := [zV 3 0 0, zV 0 0 0, zV 0 0 0, zV 0 0 0, zV 0 0 0, zV 0 0 0]
theorem hf_10 : ∀ j, j < 6 → defaultValue (tyX9 j) = vp_V fs_10 j := fun j hj => by
  rcases (show j = 0 ∨ j = 1 ∨ j = 2 ∨ j = 3 ∨ j = 4 ∨ j = 5 by omega) with rfl | rfl | rfl | rfl | rfl | rfl
  all_goals rfl
theorem he_10 {E : zE} : ∀ r : Nat → Nat, zC E 30 0 r (fun _ => 0) = .inr (9, fs_10) := fun _ => rfl
theorem ar_30_0 : zArr 30 0 := ⟨by decide, fun _ => rfl, fun m h => (by cases h), by decide, fun _ => rfl, fun k r h => (by cases h), fun _ => rfl, fun k v h => (by cases h)⟩
theorem rw_11 : rawT 31 := ⟨fun _ => rfl, fun _ => rfl, rfl, fun _ => rfl, fun _ => rfl⟩
theorem cl_11 : zCls 11 := ⟨fun k hk => ⟨(by unfold rq; first | rfl | (simp only []; split <;> first | rfl | (exfalso; revert hk; decide))), (by unfold fq; first | rfl | (simp only []; split <;> first | rfl | (exfalso; revert hk; decide))), (by unfold f0; first | rfl | (simp only []; split <;> first | rfl | (exfalso; revert hk; decide)))⟩, rfl, fun _ => rfl, fun _ => rfl, rfl, rfl, rfl, rfl, rfl⟩
def fs_11 : List Value := [zV 3 0 0, zV 3 0 0, zV 0 0 0, zV 0 0 0, zV 0 0 0, zV 0 0 0, zV 0 0 0, zV 1 0 0, zV 1 0 0]
theorem hf_11 : ∀ j, j < 9 → defaultValue (tyX10 j) = vp_V fs_11 j := fun j hj => by
  rcases (show j = 0 ∨ j = 1 ∨ j = 2 ∨ j = 3 ∨ j = 4 ∨ j = 5 ∨ j = 6 ∨ j = 7 ∨ j = 8 by omega) with rfl | rfl | rfl | rfl | rfl | rfl | rfl | rfl | rfl
  all_goals rfl
theorem he_11 {E : zE} : ∀ r : Nat → Nat, zC E 31 0 r (fun _ => 0) = .inr (10, fs_11) := fun _ => rfl
theorem ar_31_0 : zArr 31 0 := ⟨by decide, fun _ => rfl, fun m h => (by cases h), by decide, fun _ => rfl, fun k r h => (by cases h), fun _ => rfl, fun k v h => (by cases h)⟩
theorem rw_12 : rawT 32 := ⟨fun _ => rfl, fun _ => rfl, rfl, fun _ => rfl, fun _ => rfl⟩
theorem cl_12 : zCls 12 := ⟨fun k hk => ⟨(by unfold rq; first | rfl | (simp only []; split <;> first | rfl | (exfalso; revert hk; decide))), (by unfold fq; first | rfl | (simp only []; split <;> first | rfl | (exfalso; revert hk; decide))), (by unfold f0; first | rfl | (simp only []; split <;> first | rfl | (exfalso; revert hk; decide)))⟩, rfl, fun _ => rfl, fun _ => rfl, rfl, rfl, rfl, rfl, rfl⟩
def fs_12 : List Value := [zV 3 0 0, zV 3 0 0, zV 3 0 0, zV 3 0 0, zV 3 0 0, zV 3 0 0, zV 3 0 0, zV 3 0 0, zV 3 0 0, zV 3 0 0, zV 3 0 0, zV 3 0 0, zV 3 0 0, zV 0 0 0, zV 0 0 0, zV 0 0 0]
theorem hf_12 : ∀ j, j < 16 → defaultValue (tyX11 j) = vp_V fs_12 j := fun j hj => by
  rcases (show j = 0 ∨ j = 1 ∨ j = 2 ∨ j = 3 ∨ j = 4 ∨ j = 5 ∨ j = 6 ∨ j = 7 ∨ j = 8 ∨ j = 9 ∨ j = 10 ∨ j = 11 ∨ j = 12 ∨ j = 13 ∨ j = 14 ∨ j = 15 by omega) with rfl | rfl | rfl | rfl | rfl | rfl | rfl | rfl | rfl | rfl | rfl | rfl | rfl | rfl | rfl | rfl
  all_goals rfl
theorem he_12 {E : zE} : ∀ r : Nat → Nat, zC E 32 0 r (fun _ => 0) = .inr (11, fs_12) := fun _ => rfl
theorem ar_32_0 : zArr 32 0 := ⟨by decide, fun _ => rfl, fun m h => (by cases h), by decide, fun _ => rfl, fun k r h => (by cases h), fun _ => rfl, fun k v h => (by cases h)⟩
theorem rw_13 : rawT 33 := ⟨fun _ => rfl, fun _ => rfl, rfl, fun _ => rfl, fun _ => rfl⟩
theorem cl_13 : zCls 13 := ⟨fun k hk => ⟨(by unfold rq; first | rfl | (simp only []; split <;> first | rfl | (exfalso; revert hk; decide))), (by unfold fq; first | rfl | (simp only []; split <;> first | rfl | (exfalso; revert hk; decide))), (by unfold f0; first | rfl | (simp only []; split <;> first | rfl | (exfalso; revert hk; decide)))⟩, rfl, fun _ => rfl, fun _ => rfl, rfl, rfl, rfl, rfl, rfl⟩
def fs_13 : List Value := [zV 0 0 0, zV 3 0 0, zV 0 0 0, zV 0 0 0, zV 0 0 0, zV 0 0 0, zV 0 0 0, zV 0 0 0, zV 0 0 0, zV 3 0 0, zV 3 0 0, zV 3 0 0, zV 3 0 0, zV 3 0 0, zV 3 0 0, zV 3 0 0, zV 3 0 0, zV 3 0 0, zV 3 0 0, zV 3 0 0, zV 3 0 0, zV 0 0 0, zV 0 0 0, zV 0 0 0, zV 0 0 0, zV 0 0 0, zV 0 0 0, zV 3 0 0, zV 3 0 0, zV 3 0 0, zV 3 0 0, zV 3 0 0, zV 3 0 0, zV 3 0 0, zV 3 0 0, zV 3 0 0, zV 3 0 0, zV 3 0 0, zV 0 0 0, zV 3 0 0, zV 3 0 0, zV 0 0 0, zV 3 0 0, zV 0 0 0, zV 0 0 0, zV 3 0 0, zV 3 0 0, zV 3 0 0, zV 3 0 0, zV 3 0 0, zV 3 0 0, zV 0 0 0, zV 0 0 0, zV 0 0 0, zV 0 0 0, zV 3 0 0, zV 3 0 0, zV 3 0 0, zV 0 0 0]
theorem hf_13 : ∀ j, j < 59 → defaultValue (tyX12 j) = vp_V fs_13 j := fun j hj => by
  rcases (show j = 0 ∨ j = 1 ∨ j = 2 ∨ j = 3 ∨ j = 4 ∨ j = 5 ∨ j = 6 ∨ j = 7 ∨ j = 8 ∨ j = 9 ∨ j = 10 ∨ j = 11 ∨ j = 12 ∨ j = 13 ∨ j = 14 ∨ j = 15 ∨ j = 16 ∨ j = 17 ∨ j = 18 ∨ j = 19 ∨ j = 20 ∨ j = 21 ∨ j = 22 ∨ j = 23 ∨ j = 24 ∨ j = 25 ∨ j = 26 ∨ j = 27 ∨ j = 28 ∨ j = 29 ∨ j = 30 ∨ j = 31 ∨ j = 32 ∨ j = 33 ∨ j = 34 ∨ j = 35 ∨ j = 36 ∨ j = 37 ∨ j = 38 ∨ j = 39 ∨ j = 40 ∨ j = 41 ∨ j = 42 ∨ j = 43 ∨ j = 44 ∨ j = 45 ∨ j = 46 ∨ j = 47 ∨ j = 48 ∨ j = 49 ∨ j = 50 ∨ j = 51 ∨ j = 52 ∨ j = 53 ∨ j = 54 ∨ j = 55 ∨ j = 56 ∨ j = 57 ∨ j = 58 by omega) with rfl | rfl | rfl | rfl | rfl | rfl | rfl | rfl | rfl | rfl | rfl | rfl | rfl | rfl | rfl | rfl | rfl | rfl | rfl | rfl | rfl | rfl | rfl | rfl | rfl | rfl | rfl | rfl | rfl | rfl | rfl | rfl | rfl | rfl | rfl | rfl | rfl | rfl | rfl | rfl | rfl | rfl | rfl | rfl | rfl | rfl | rfl | rfl | rfl | rfl | rfl | rfl | rfl | rfl | rfl | rfl | rfl | rfl | rfl
  all_goals rfl
theorem he_13 {E : zE} : ∀ r : Nat → Nat, zC E 33 0 r (fun _ => 0) = .inr (12, fs_13) := fun _ => rfl
theorem ar_33_0 : zArr 33 0 := ⟨by decide, fun _ => rfl, fun m h => (by cases h), by decide, fun _ => rfl, fun k r h => (by cases h), fun _ => rfl, fun k v h => (by cases h)⟩
theorem ar_41_60 : zArr 41 60 := ⟨by decide, fun _ => rfl, fun m h => (by cases h; rfl), by decide, fun _ => rfl, fun k r h => (by cases h; exact ⟨by decide, by decide⟩), fun _ => rfl, fun k v h => (by cases h; rfl)⟩
theorem ar_46_150 : zArr 46 150 := ⟨by decide, fun _ => rfl, fun m h => (by cases h), by decide, fun _ => rfl, fun k r h => (by cases h; exact ⟨by decide, by decide⟩), fun _ => rfl, fun k v h => (by cases h)⟩
theorem ar_42_15 : zArr 42 15 := ⟨by decide, fun _ => rfl, fun m h => (by cases h; rfl), by decide, fun _ => rfl, fun k r h => (by cases h; exact ⟨by decide, by decide⟩), fun _ => rfl, fun k v h => (by cases h; rfl)⟩
theorem ar_43_12 : zArr 43 12 := ⟨by decide, fun _ => rfl, fun m h => (by cases h; rfl), by decide, fun _ => rfl, fun k r h => (by cases h; exact ⟨by decide, by decide⟩), fun _ => rfl, fun k v h => (by cases h; rfl)⟩
theorem ar_44_3 : zArr 44 3 := ⟨by decide, fun _ => rfl, fun m h => (by cases h; rfl), by decide, fun _ => rfl, fun k r h => (by cases h; exact ⟨by decide, by decide⟩), fun _ => rfl, fun k v h => (by cases h; rfl)⟩
theorem ar_45_600 : zArr 45 600 := ⟨by decide, fun _ => rfl, fun m h => (by cases h; rfl), by decide, fun _ => rfl, fun k r h => (by cases h; exact ⟨by decide, by decide⟩), fun _ => rfl, fun k v h => (by cases h; rfl)⟩
theorem ar_47_12 : zArr 47 12 := ⟨by decide, fun _ => rfl, fun m h => (by cases h; rfl), by decide, fun _ => rfl, fun k r h => (by cases h; exact ⟨by decide, by decide⟩), fun _ => rfl, fun k v h => (by cases h; rfl)⟩
theorem ar_48_12 : zArr 48 12 := ⟨by decide, fun _ => rfl, fun m h => (by cases h; rfl), by decide, fun _ => rfl, fun k r h => (by cases h; exact ⟨by decide, by decide⟩), fun _ => rfl, fun k v h => (by cases h; rfl)⟩
theorem ar_49_6 : zArr 49 6 := ⟨by decide, fun _ => rfl, fun m h => (by cases h; rfl), by decide, fun _ => rfl, fun k r h => (by cases h), fun _ => rfl, fun k v h => (by cases h; rfl)⟩
theorem ar_50_21 : zArr 50 21 := ⟨by decide, fun _ => rfl, fun m h => (by cases h; rfl), by decide, fun _ => rfl, fun k r h => (by cases h; exact ⟨by decide, by decide⟩), fun _ => rfl, fun k v h => (by cases h; rfl)⟩
theorem ar_51_5 : zArr 51 5 := ⟨by decide, fun _ => rfl, fun m h => (by cases h; rfl), by decide, fun _ => rfl, fun k r h => (by cases h; exact ⟨by decide, by decide⟩), fun _ => rfl, fun k v h => (by cases h; rfl)⟩
theorem ar_52_3 : zArr 52 3 := ⟨by decide, fun _ => rfl, fun m h => (by cases h; rfl), by decide, fun _ => rfl, fun k r h => (by cases h; exact ⟨by decide, by decide⟩), fun _ => rfl, fun k v h => (by cases h; rfl)⟩
theorem ar_53_21007 : zArr 53 21007 := ⟨by decide, fun _ => rfl, fun m h => (by cases h), by decide, fun _ => rfl, fun k r h => (by cases h; exact ⟨by decide, by decide⟩), fun _ => rfl, fun k v h => (by cases h; rfl)⟩
theorem ar_54_4096 : zArr 54 4096 := ⟨by decide, fun _ => rfl, fun m h => (by cases h; rfl), by decide, fun _ => rfl, fun k r h => (by cases h; exact ⟨by decide, by decide⟩), fun _ => rfl, fun k v h => (by cases h; rfl)⟩
theorem ar_55_3001 : zArr 55 3001 := ⟨by decide, fun _ => rfl, fun m h => (by cases h; rfl), by decide, fun _ => rfl, fun k r h => (by cases h; exact ⟨by decide, by decide⟩), fun _ => rfl, fun k v h => (by cases h; rfl)⟩
theorem ar_56_13 : zArr 56 13 := ⟨by decide, fun _ => rfl, fun m h => (by cases h; rfl), by decide, fun _ => rfl, fun k r h => (by cases h), fun _ => rfl, fun k v h => (by cases h)⟩
theorem ar_57_323 : zArr 57 323 := ⟨by decide, fun _ => rfl, fun m h => (by cases h; rfl), by decide, fun _ => rfl, fun k r h => (by cases h; exact ⟨by decide, by decide⟩), fun _ => rfl, fun k v h => (by cases h; rfl)⟩
theorem ar_53_3584 : zArr 53 3584 := ⟨by decide, fun _ => rfl, fun m h => (by cases h), by decide, fun _ => rfl, fun k r h => (by cases h; exact ⟨by decide, by decide⟩), fun _ => rfl, fun k v h => (by cases h; rfl)⟩
theorem ar_59_10752 : zArr 59 10752 := ⟨by decide, fun _ => rfl, fun m h => (by cases h; rfl), by decide, fun _ => rfl, fun k r h => (by cases h; exact ⟨by decide, by decide⟩), fun _ => rfl, fun k v h => (by cases h; rfl)⟩
theorem ar_60_512 : zArr 60 512 := ⟨by decide, fun _ => rfl, fun m h => (by cases h; rfl), by decide, fun _ => rfl, fun k r h => (by cases h; exact ⟨by decide, by decide⟩), fun _ => rfl, fun k v h => (by cases h; rfl)⟩
theorem ar_71_2 : zArr 71 2 := ⟨by decide, fun _ => rfl, fun m h => (by cases h; rfl), by decide, fun _ => rfl, fun k r h => (by cases h; exact ⟨by decide, by decide⟩), fun _ => rfl, fun k v h => (by cases h; rfl)⟩
theorem ar_72_600 : zArr 72 600 := ⟨by decide, fun _ => rfl, fun m h => (by cases h; rfl), by decide, fun _ => rfl, fun k r h => (by cases h; exact ⟨by decide, by decide⟩), fun _ => rfl, fun k v h => (by cases h; rfl)⟩
theorem ar_73_12 : zArr 73 12 := ⟨by decide, fun _ => rfl, fun m h => (by cases h; rfl), by decide, fun _ => rfl, fun k r h => (by cases h; exact ⟨by decide, by decide⟩), fun _ => rfl, fun k v h => (by cases h; rfl)⟩
theorem ar_74_3 : zArr 74 3 := ⟨by decide, fun _ => rfl, fun m h => (by cases h; rfl), by decide, fun _ => rfl, fun k r h => (by cases h; exact ⟨by decide, by decide⟩), fun _ => rfl, fun k v h => (by cases h; rfl)⟩
theorem ar_75_180 : zArr 75 180 := ⟨by decide, fun _ => rfl, fun m h => (by cases h; rfl), by decide, fun _ => rfl, fun k r h => (by cases h; exact ⟨by decide, by decide⟩), fun _ => rfl, fun k v h => (by cases h; rfl)⟩
theorem ar_76_3 : zArr 76 3 := ⟨by decide, fun _ => rfl, fun m h => (by cases h; rfl), by decide, fun _ => rfl, fun k r h => (by cases h; exact ⟨by decide, by decide⟩), fun _ => rfl, fun k v h => (by cases h; rfl)⟩
theorem ar_77_3 : zArr 77 3 := ⟨by decide, fun _ => rfl, fun m h => (by cases h; rfl), by decide, fun _ => rfl, fun k r h => (by cases h; exact ⟨by decide, by decide⟩), fun _ => rfl, fun k v h => (by cases h; rfl)⟩
theorem ar_78_3 : zArr 78 3 := ⟨by decide, fun _ => rfl, fun m h => (by cases h; rfl), by decide, fun _ => rfl, fun k r h => (by cases h; exact ⟨by decide, by decide⟩), fun _ => rfl, fun k v h => (by cases h; rfl)⟩
theorem ar_79_12 : zArr 79 12 := ⟨by decide, fun _ => rfl, fun m h => (by cases h; rfl), by decide, fun _ => rfl, fun k r h => (by cases h; exact ⟨by decide, by decide⟩), fun _ => rfl, fun k v h => (by cases h; rfl)⟩
theorem ar_80_12 : zArr 80 12 := ⟨by decide, fun _ => rfl, fun m h => (by cases h; rfl), by decide, fun _ => rfl, fun k r h => (by cases h; exact ⟨by decide, by decide⟩), fun _ => rfl, fun k v h => (by cases h; rfl)⟩
theorem ar_81_3 : zArr 81 3 := ⟨by decide, fun _ => rfl, fun m h => (by cases h; rfl), by decide, fun _ => rfl, fun k r h => (by cases h; exact ⟨by decide, by decide⟩), fun _ => rfl, fun k v h => (by cases h; rfl)⟩
theorem ar_82_60 : zArr 82 60 := ⟨by decide, fun _ => rfl, fun m h => (by cases h; rfl), by decide, fun _ => rfl, fun k r h => (by cases h; exact ⟨by decide, by decide⟩), fun _ => rfl, fun k v h => (by cases h; rfl)⟩
theorem ar_83_12 : zArr 83 12 := ⟨by decide, fun _ => rfl, fun m h => (by cases h; rfl), by decide, fun _ => rfl, fun k r h => (by cases h; exact ⟨by decide, by decide⟩), fun _ => rfl, fun k v h => (by cases h; rfl)⟩
theorem ar_84_515 : zArr 84 515 := ⟨by decide, fun _ => rfl, fun m h => (by cases h; rfl), by decide, fun _ => rfl, fun k r h => (by cases h; exact ⟨(axS_h _).2.2.1, (axS_h _).2.2.2⟩), fun _ => rfl, fun k v h => (by cases h; rfl)⟩
theorem ar_85_515 : zArr 85 515 := ⟨by decide, fun _ => rfl, fun m h => (by cases h; rfl), by decide, fun _ => rfl, fun k r h => (by cases h; exact ⟨(axS_h _).2.2.1, (axS_h _).2.2.2⟩), fun _ => rfl, fun k v h => (by cases h; rfl)⟩
theorem ar_86_10000 : zArr 86 10000 := ⟨by decide, fun _ => rfl, fun m h => (by cases h; rfl), by decide, fun _ => rfl, fun k r h => (by cases h; exact ⟨by decide, by decide⟩), fun _ => rfl, fun k v h => (by cases h; rfl)⟩
theorem ar_87_5 : zArr 87 5 := ⟨by decide, fun _ => rfl, fun m h => (by cases h; rfl), by decide, fun _ => rfl, fun k r h => (by cases h; exact ⟨by decide, by decide⟩), fun _ => rfl, fun k v h => (by cases h; rfl)⟩
theorem ar_88_150 : zArr 88 150 := ⟨by decide, fun _ => rfl, fun m h => (by cases h; rfl), by decide, fun _ => rfl, fun k r h => (by cases h; exact ⟨by decide, by decide⟩), fun _ => rfl, fun k v h => (by cases h; rfl)⟩
theorem ar_89_150 : zArr 89 150 := ⟨by decide, fun _ => rfl, fun m h => (by cases h; rfl), by decide, fun _ => rfl, fun k r h => (by cases h; exact ⟨by decide, by decide⟩), fun _ => rfl, fun k v h => (by cases h; rfl)⟩
theorem ar_90_150 : zArr 90 150 := ⟨by decide, fun _ => rfl, fun m h => (by cases h; rfl), by decide, fun _ => rfl, fun k r h => (by cases h; exact ⟨by decide, by decide⟩), fun _ => rfl, fun k v h => (by cases h; rfl)⟩
theorem ar_91_900 : zArr 91 900 := ⟨by decide, fun _ => rfl, fun m h => (by cases h; rfl), by decide, fun _ => rfl, fun k r h => (by cases h; exact ⟨by decide, by decide⟩), fun _ => rfl, fun k v h => (by cases h)⟩
theorem ar_92_900 : zArr 92 900 := ⟨by decide, fun _ => rfl, fun m h => (by cases h; rfl), by decide, fun _ => rfl, fun k r h => (by cases h; exact ⟨by decide, by decide⟩), fun _ => rfl, fun k v h => (by cases h; rfl)⟩
theorem ar_93_900 : zArr 93 900 := ⟨by decide, fun _ => rfl, fun m h => (by cases h; rfl), by decide, fun _ => rfl, fun k r h => (by cases h; exact ⟨by decide, by decide⟩), fun _ => rfl, fun k v h => (by cases h; rfl)⟩
theorem ar_94_6 : zArr 94 6 := ⟨by decide, fun _ => rfl, fun m h => (by cases h; rfl), by decide, fun _ => rfl, fun k r h => (by cases h; exact ⟨by decide, by decide⟩), fun _ => rfl, fun k v h => (by cases h; rfl)⟩
theorem ar_96_24 : zArr 96 24 := ⟨by decide, fun _ => rfl, fun m h => (by cases h; rfl), by decide, fun _ => rfl, fun k r h => (by cases h; exact ⟨by decide, by decide⟩), fun _ => rfl, fun k v h => (by cases h; rfl)⟩
theorem ar_97_24 : zArr 97 24 := ⟨by decide, fun _ => rfl, fun m h => (by cases h; rfl), by decide, fun _ => rfl, fun k r h => (by cases h; exact ⟨by decide, by decide⟩), fun _ => rfl, fun k v h => (by cases h; rfl)⟩
theorem ar_95_150 : zArr 95 150 := ⟨by decide, fun _ => rfl, fun m h => (by cases h; rfl), by decide, fun _ => rfl, fun k r h => (by cases h; exact ⟨by decide, by decide⟩), fun _ => rfl, fun k v h => (by cases h; rfl)⟩
theorem ar_98_3 : zArr 98 3 := ⟨by decide, fun _ => rfl, fun m h => (by cases h; rfl), by decide, fun _ => rfl, fun k r h => (by cases h; exact ⟨by decide, by decide⟩), fun _ => rfl, fun k v h => (by cases h; rfl)⟩
theorem ar_99_515 : zArr 99 515 := ⟨by decide, fun _ => rfl, fun m h => (by cases h; rfl), by decide, fun _ => rfl, fun k r h => (by cases h; exact ⟨(axS_h _).2.2.1, (axS_h _).2.2.2⟩), fun _ => rfl, fun k v h => (by cases h; rfl)⟩
theorem ar_100_5 : zArr 100 5 := ⟨by decide, fun _ => rfl, fun m h => (by cases h; rfl), by decide, fun _ => rfl, fun k r h => (by cases h; exact ⟨by decide, by decide⟩), fun _ => rfl, fun k v h => (by cases h; rfl)⟩
theorem ar_101_210070 : zArr 101 210070 := ⟨by decide, fun _ => rfl, fun m h => (by cases h; rfl), by decide, fun _ => rfl, fun k r h => (by cases h; exact ⟨by decide, by decide⟩), fun _ => rfl, fun k v h => (by cases h; rfl)⟩
theorem ar_102_3001 : zArr 102 3001 := ⟨by decide, fun _ => rfl, fun m h => (by cases h; rfl), by decide, fun _ => rfl, fun k r h => (by cases h; exact ⟨by decide, by decide⟩), fun _ => rfl, fun k v h => (by cases h; rfl)⟩
theorem ar_103_8192 : zArr 103 8192 := ⟨by decide, fun _ => rfl, fun m h => (by cases h; rfl), by decide, fun _ => rfl, fun k r h => (by cases h; exact ⟨by decide, by decide⟩), fun _ => rfl, fun k v h => (by cases h; rfl)⟩
theorem ar_104_6695 : zArr 104 6695 := ⟨by decide, fun _ => rfl, fun m h => (by cases h; rfl), by decide, fun _ => rfl, fun k r h => (by cases h; exact ⟨(axS_h _).2.2.1, (axS_h _).2.2.2⟩), fun _ => rfl, fun k v h => (by cases h; rfl)⟩
theorem ar_105_6 : zArr 105 6 := ⟨by decide, fun _ => rfl, fun m h => (by cases h; rfl), by decide, fun _ => rfl, fun k r h => (by cases h; exact ⟨by decide, by decide⟩), fun _ => rfl, fun k v h => (by cases h; rfl)⟩
theorem ar_106_39663 : zArr 106 39663 := ⟨by decide, fun _ => rfl, fun m h => (by cases h; rfl), by decide, fun _ => rfl, fun k r h => (by cases h; exact ⟨(axI_h _).2.2.1, (axI_h _).2.2.2⟩), fun _ => rfl, fun k v h => (by cases h; rfl)⟩
