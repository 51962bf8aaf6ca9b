theorem rw_1 : rawT 21 := ⟨fun _ => rfl, fun _ => rfl, rfl, fun _ => rfl, fun _ => rfl⟩
theorem cl_1 : zCls 1 := ⟨fun k hk => ⟨by unfold rq; simp only []; split <;> first | rfl | (exfalso; revert hk; decide), by unfold fq; simp only []; split <;> first | rfl | (exfalso; revert hk; decide), by unfold f0; simp only []; split <;> first | rfl | (exfalso; revert hk; decide)⟩, rfl, fun _ => rfl, fun _ => rfl, rfl, rfl, rfl, rfl, rfl⟩
def fs_1 : List Value := [zV 3 0 0, zV 3 0 0, zV 3 0 0, zV 3 0 0, zV 3 0 0, zV 3 0 0, zV 3 0 0, zV 0 0 0, zV 0 0 0]
theorem hf_1 : ∀ j, j < 9 → defaultValue (tyX0 j) = vp_V fs_1 j := fun j hj => by
  rcases (show j = 0 ∨ j = 1 ∨ j = 2 ∨ j = 3 ∨ j = 4 ∨ j = 5 ∨ j = 6 ∨ j = 7 ∨ j = 8 by omega) with rfl | rfl | rfl | rfl | rfl | rfl | rfl | rfl | rfl
  all_goals rfl
theorem he_1 {E : zE} : ∀ r : Nat → Nat, zC E 21 0 r (fun _ => 0) = .inr (0, fs_1) := fun _ => rfl
theorem ar_21_0 : zArr 21 0 := ⟨by decide, fun _ => rfl, fun m h => by cases h, by decide, fun _ => rfl, fun k r h => by cases h, fun _ => rfl, fun k v h => by cases h⟩
theorem rw_2 : rawT 22 := ⟨fun _ => rfl, fun _ => rfl, rfl, fun _ => rfl, fun _ => rfl⟩
theorem cl_2 : zCls 2 := ⟨fun k hk => ⟨by unfold rq; simp only []; split <;> first | rfl | (exfalso; revert hk; decide), by unfold fq; simp only []; split <;> first | rfl | (exfalso; revert hk; decide), by unfold f0; simp only []; split <;> first | rfl | (exfalso; revert hk; decide)⟩, rfl, fun _ => rfl, fun _ => rfl, rfl, rfl, rfl, rfl, rfl⟩
def fs_2 : List Value := [zV 3 0 0, zV 3 0 0, zV 0 0 0]
theorem hf_2 : ∀ j, j < 3 → defaultValue (tyX1 j) = vp_V fs_2 j := fun j hj => by
  rcases (show j = 0 ∨ j = 1 ∨ j = 2 by omega) with rfl | rfl | rfl
  all_goals rfl
theorem he_2 {E : zE} : ∀ r : Nat → Nat, zC E 22 0 r (fun _ => 0) = .inr (1, fs_2) := fun _ => rfl
theorem ar_22_0 : zArr 22 0 := ⟨by decide, fun _ => rfl, fun m h => by cases h, by decide, fun _ => rfl, fun k r h => by cases h, fun _ => rfl, fun k v h => by cases h⟩
theorem rw_3 : rawT 23 := ⟨fun _ => rfl, fun _ => rfl, rfl, fun _ => rfl, fun _ => rfl⟩
theorem cl_3 : zCls 3 := ⟨fun k hk => ⟨by unfold rq; simp only []; split <;> first | rfl | (exfalso; revert hk; decide), by unfold fq; simp only []; split <;> first | rfl | (exfalso; revert hk; decide), by unfold f0; simp only []; split <;> first | rfl | (exfalso; revert hk; decide)⟩, rfl, fun _ => rfl, fun _ => rfl, rfl, rfl, rfl, rfl, rfl⟩
def fs_3 : List Value := [zV 3 0 0, zV 3 0 0, zV 3 0 0, zV 3 0 0, zV 0 0 0, zV 0 0 0, zV 0 0 0, zV 0 0 0]
theorem hf_3 : ∀ j, j < 8 → defaultValue (tyX2 j) = vp_V fs_3 j := fun j hj => by
  rcases (show j = 0 ∨ j = 1 ∨ j = 2 ∨ j = 3 ∨ j = 4 ∨ j = 5 ∨ j = 6 ∨ j = 7 by omega) with rfl | rfl | rfl | rfl | rfl | rfl | rfl | rfl
  all_goals rfl
theorem he_3 {E : zE} : ∀ r : Nat → Nat, zC E 23 0 r (fun _ => 0) = .inr (2, fs_3) := fun _ => rfl
theorem ar_23_0 : zArr 23 0 := ⟨by decide, fun _ => rfl, fun m h => by cases h, by decide, fun _ => rfl, fun k r h => by cases h, fun _ => rfl, fun k v h => by cases h⟩
theorem rw_4 : rawT 24 := ⟨fun _ => rfl, fun _ => rfl, rfl, fun _ => rfl, fun _ => rfl⟩
theorem cl_4 : zCls 4 := ⟨fun k hk => ⟨by unfold rq; simp only []; split <;> first | rfl | (exfalso; revert hk; decide), by unfold fq; simp only []; split <;> first | rfl | (exfalso; revert hk; decide), by unfold f0; simp only []; split <;> first | rfl | (exfalso; revert hk; decide)⟩, rfl, fun _ => rfl, fun _ => rfl, rfl, rfl, rfl, rfl, rfl⟩
def fs_4 : List Value := [zV 3 0 0, zV 3 0 0, zV 3 0 0, zV 3 0 0, zV 3 0 0, zV 3 0 0, zV 3 0 0, zV 0 0 0, zV 0 0 0, zV 0 0 0, zV 0 0 0, zV 0 0 0, zV 0 0 0, zV 0 0 0]
theorem hf_4 : ∀ j, j < 14 → defaultValue (tyX3 j) = vp_V fs_4 j := fun j hj => by
  rcases (show j = 0 ∨ j = 1 ∨ j = 2 ∨ j = 3 ∨ j = 4 ∨ j = 5 ∨ j = 6 ∨ j = 7 ∨ j = 8 ∨ j = 9 ∨ j = 10 ∨ j = 11 ∨ j = 12 ∨ j = 13 by omega) with rfl | rfl | rfl | rfl | rfl | rfl | rfl | rfl | rfl | rfl | rfl | rfl | rfl | rfl
  all_goals rfl
theorem he_4 {E : zE} : ∀ r : Nat → Nat, zC E 24 0 r (fun _ => 0) = .inr (3, fs_4) := fun _ => rfl
theorem ar_24_0 : zArr 24 0 := ⟨by decide, fun _ => rfl, fun m h => by cases h, by decide, fun _ => rfl, fun k r h => by cases h, fun _ => rfl, fun k v h => by cases h⟩
theorem rw_5 : rawT 25 := ⟨fun _ => rfl, fun _ => rfl, rfl, fun _ => rfl, fun _ => rfl⟩
theorem cl_5 : zCls 5 := ⟨fun k hk => ⟨by unfold rq; simp only []; split <;> first | rfl | (exfalso; revert hk; decide), by unfold fq; simp only []; split <;> first | rfl | (exfalso; revert hk; decide), by unfold f0; simp only []; split <;> first | rfl | (exfalso; revert hk; decide)⟩, rfl, fun _ => rfl, fun _ => rfl, rfl, rfl, rfl, rfl, rfl⟩
def fs_5 : List Value := [zV 3 0 0, zV 3 0 0, zV 3 0 0, zV 3 0 0, zV 0 0 0, zV 0 0 0]
theorem hf_5 : ∀ j, j < 6 → defaultValue (tyX4 j) = vp_V fs_5 j := fun j hj => by
  rcases (show j = 0 ∨ j = 1 ∨ j = 2 ∨ j = 3 ∨ j = 4 ∨ j = 5 by omega) with rfl | rfl | rfl | rfl | rfl | rfl
  all_goals rfl
theorem he_5 {E : zE} : ∀ r : Nat → Nat, zC E 25 0 r (fun _ => 0) = .inr (4, fs_5) := fun _ => rfl
theorem ar_25_0 : zArr 25 0 := ⟨by decide, fun _ => rfl, fun m h => by cases h, by decide, fun _ => rfl, fun k r h => by cases h, fun _ => rfl, fun k v h => by cases h⟩
theorem rw_6 : rawT 26 := ⟨fun _ => rfl, fun _ => rfl, rfl, fun _ => rfl, fun _ => rfl⟩
theorem cl_6 : zCls 6 := ⟨fun k hk => ⟨by unfold rq; simp only []; split <;> first | rfl | (exfalso; revert hk; decide), by unfold fq; simp only []; split <;> first | rfl | (exfalso; revert hk; decide), by unfold f0; simp only []; split <;> first | rfl | (exfalso; revert hk; decide)⟩, rfl, fun _ => rfl, fun _ => rfl, rfl, rfl, rfl, rfl, rfl⟩
def fs_6 : List Value := [zV 3 0 0, zV 3 0 0, zV 3 0 0]
theorem hf_6 : ∀ j, j < 3 → defaultValue (tyX5 j) = vp_V fs_6 j := fun j hj => by
  rcases (show j = 0 ∨ j = 1 ∨ j = 2 by omega) with rfl | rfl | rfl
  all_goals rfl
theorem he_6 {E : zE} : ∀ r : Nat → Nat, zC E 26 0 r (fun _ => 0) = .inr (5, fs_6) := fun _ => rfl
theorem ar_26_0 : zArr 26 0 := ⟨by decide, fun _ => rfl, fun m h => by cases h, by decide, fun _ => rfl, fun k r h => by cases h, fun _ => rfl, fun k v h => by cases h⟩
theorem rw_7 : rawT 27 := ⟨fun _ => rfl, fun _ => rfl, rfl, fun _ => rfl, fun _ => rfl⟩
theorem cl_7 : zCls 7 := ⟨fun k hk => ⟨by unfold rq; simp only []; split <;> first | rfl | (exfalso; revert hk; decide), by unfold fq; simp only []; split <;> first | rfl | (exfalso; revert hk; decide), by unfold f0; simp only []; split <;> first | rfl | (exfalso; revert hk; decide)⟩, rfl, fun _ => rfl, fun _ => rfl, rfl, rfl, rfl, rfl, rfl⟩
def fs_7 : List Value := [zV 3 0 0, zV 0 0 0]
theorem hf_7 : ∀ j, j < 2 → defaultValue (tyX6 j) = vp_V fs_7 j := fun j hj => by
  rcases (show j = 0 ∨ j = 1 by omega) with rfl | rfl
  all_goals rfl
theorem he_7 {E : zE} : ∀ r : Nat → Nat, zC E 27 0 r (fun _ => 0) = .inr (6, fs_7) := fun _ => rfl
theorem ar_27_0 : zArr 27 0 := ⟨by decide, fun _ => rfl, fun m h => by cases h, by decide, fun _ => rfl, fun k r h => by cases h, fun _ => rfl, fun k v h => by cases h⟩
theorem rw_8 : rawT 28 := ⟨fun _ => rfl, fun _ => rfl, rfl, fun _ => rfl, fun _ => rfl⟩
theorem cl_8 : zCls 8 := ⟨fun k hk => ⟨by unfold rq; simp only []; split <;> first | rfl | (exfalso; revert hk; decide), by unfold fq; simp only []; split <;> first | rfl | (exfalso; revert hk; decide), by unfold f0; simp only []; split <;> first | rfl | (exfalso; revert hk; decide)⟩, rfl, fun _ => rfl, fun _ => rfl, rfl, rfl, rfl, rfl, rfl⟩
def fs_8 : List Value := [zV 3 0 0, zV 0 0 0]
theorem hf_8 : ∀ j, j < 2 → defaultValue (tyX7 j) = vp_V fs_8 j := fun j hj => by
  rcases (show j = 0 ∨ j = 1 by omega) with rfl | rfl
  all_goals rfl
theorem he_8 {E : zE} : ∀ r : Nat → Nat, zC E 28 0 r (fun _ => 0) = .inr (7, fs_8) := fun _ => rfl
theorem ar_28_0 : zArr 28 0 := ⟨by decide, fun _ => rfl, fun m h => by cases h, by decide, fun _ => rfl, fun k r h => by cases h, fun _ => rfl, fun k v h => by cases h⟩
theorem rw_9 : rawT 29 := ⟨fun _ => rfl, fun _ => rfl, rfl, fun _ => rfl, fun _ => rfl⟩
theorem cl_9 : zCls 9 := ⟨fun k hk => ⟨by unfold rq; simp only []; split <;> first | rfl | (exfalso; revert hk; decide), by unfold fq; simp only []; split <;> first | rfl | (exfalso; revert hk; decide), by unfold f0; simp only []; split <;> first | rfl | (exfalso; revert hk; decide)⟩, rfl, fun _ => rfl, fun _ => rfl, rfl, rfl, rfl, rfl, rfl⟩
def fs_9 : List Value := [zV 3 0 0, zV 3 0 0, zV 3 0 0, zV 3 0 0, zV 0 0 0, zV 0 0 0]
theorem hf_9 : ∀ j, j < 6 → defaultValue (tyX8 j) = vp_V fs_9 j := fun j hj => by
  rcases (show j = 0 ∨ j = 1 ∨ j = 2 ∨ j = 3 ∨ j = 4 ∨ j = 5 by omega) with rfl | rfl | rfl | rfl | rfl | rfl
  all_goals rfl
theorem he_9 {E : zE} : ∀ r : Nat → Nat, zC E 29 0 r (fun _ => 0) = .inr (8, fs_9) := fun _ => rfl
theorem ar_29_0 : zArr 29 0 := ⟨by decide, fun _ => rfl, fun m h => by cases h, by decide, fun _ => rfl, fun k r h => by cases h, fun _ => rfl, fun k v h => by cases h⟩
theorem rw_10 : rawT 30 := ⟨fun _ => rfl, fun _ => rfl, rfl, fun _ => rfl, fun _ => rfl⟩
theorem cl_10 : zCls 10 := ⟨fun k hk => ⟨by unfold rq; simp only []; split <;> first | rfl | (exfalso; revert hk; decide), by unfold fq; simp only []; split <;> first | rfl | (exfalso; revert hk; decide), by unfold f0; simp only []; split <;> first | rfl | (exfalso; revert hk; decide)⟩, rfl, fun _ => rfl, fun _ => rfl, rfl, rfl, rfl, rfl, rfl⟩
def fs_10 : List Value := [zV 3 0 0, zV 0 0 0, zV 0 0 0, zV 0 0 0, zV 0 0 0, zV 0 0 0]
theorem hf_10 : ∀ j, j < 6 → defaultValue (tyX9 j) = vp_V fs_10 j := fun j hj => by
  rcases (show j = 0 ∨ j = 1 ∨ j = 2 ∨ j = 3 ∨ j = 4 ∨ j = 5 by omega) with rfl | rfl | rfl | rfl | rfl | rfl
  all_goals rfl
theorem he_10 {E : zE} : ∀ r : Nat → Nat, zC E 30 0 r (fun _ => 0) = .inr (9, fs_10) := fun _ => rfl
theorem ar_30_0 : zArr 30 0 := ⟨by decide, fun _ => rfl, fun m h => by cases h, by decide, fun _ => rfl, fun k r h => by cases h, fun _ => rfl, fun k v h => by cases h⟩
theorem rw_11 : rawT 31 := ⟨fun _ => rfl, fun _ => rfl, rfl, fun _ => rfl, fun _ => rfl⟩
theorem cl_11 : zCls 11 := ⟨fun k hk => ⟨by unfold rq; simp only []; split <;> first | rfl | (exfalso; revert hk; decide), by unfold fq; simp only []; split <;> first | rfl | (exfalso; revert hk; decide), by unfold f0; simp only []; split <;> first | rfl | (exfalso; revert hk; decide)⟩, rfl, fun _ => rfl, fun _ => rfl, rfl, rfl, rfl, rfl, rfl⟩
def fs_11 : List Value := [zV 3 0 0, zV 3 0 0, zV 0 0 0, zV 0 0 0, zV 0 0 0, zV 0 0 0, zV 0 0 0, zV 1 0 0, zV 1 0 0]
theorem hf_11 : ∀ j, j < 9 → defaultValue (tyX10 j) = vp_V fs_11 j := fun j hj => by
  rcases (show j = 0 ∨ j = 1 ∨ j = 2 ∨ j = 3 ∨ j = 4 ∨ j = 5 ∨ j = 6 ∨ j = 7 ∨ j = 8 by omega) with rfl | rfl | rfl | rfl | rfl | rfl | rfl | rfl | rfl
  all_goals rfl
theorem he_11 {E : zE} : ∀ r : Nat → Nat, zC E 31 0 r (fun _ => 0) = .inr (10, fs_11) := fun _ => rfl
theorem ar_31_0 : zArr 31 0 := ⟨by decide, fun _ => rfl, fun m h => by cases h, by decide, fun _ => rfl, fun k r h => by cases h, fun _ => rfl, fun k v h => by cases h⟩
theorem rw_12 : rawT 32 := ⟨fun _ => rfl, fun _ => rfl, rfl, fun _ => rfl, fun _ => rfl⟩
theorem cl_12 : zCls 12 := ⟨fun k hk => ⟨by unfold rq; simp only []; split <;> first | rfl | (exfalso; revert hk; decide), by unfold fq; simp only []; split <;> first | rfl | (exfalso; revert hk; decide), by unfold f0; simp only []; split <;> first | rfl | (exfalso; revert hk; decide)⟩, rfl, fun _ => rfl, fun _ => rfl, rfl, rfl, rfl, rfl, rfl⟩
def fs_12 : List Value := [zV 3 0 0, zV 3 0 0, zV 3 0 0, zV 3 0 0, zV 3 0 0, zV 3 0 0, zV 3 0 0, zV 3 0 0, zV 3 0 0, zV 3 0 0, zV 3 0 0, zV 3 0 0, zV 3 0 0, zV 0 0 0, zV 0 0 0, zV 0 0 0]
theorem hf_12 : ∀ j, j < 16 → defaultValue (tyX11 j) = vp_V fs_12 j := fun j hj => by
  rcases (show j = 0 ∨ j = 1 ∨ j = 2 ∨ j = 3 ∨ j = 4 ∨ j = 5 ∨ j = 6 ∨ j = 7 ∨ j = 8 ∨ j = 9 ∨ j = 10 ∨ j = 11 ∨ j = 12 ∨ j = 13 ∨ j = 14 ∨ j = 15 by omega) with rfl | rfl | rfl | rfl | rfl | rfl | rfl | rfl | rfl | rfl | rfl | rfl | rfl | rfl | rfl | rfl
  all_goals rfl
theorem he_12 {E : zE} : ∀ r : Nat → Nat, zC E 32 0 r (fun _ => 0) = .inr (11, fs_12) := fun _ => rfl
theorem ar_32_0 : zArr 32 0 := ⟨by decide, fun _ => rfl, fun m h => by cases h, by decide, fun _ => rfl, fun k r h => by cases h, fun _ => rfl, fun k v h => by cases h⟩
theorem rw_13 : rawT 33 := ⟨fun _ => rfl, fun _ => rfl, rfl, fun _ => rfl, fun _ => rfl⟩
theorem cl_13 : zCls 13 := ⟨fun k hk => ⟨by unfold rq; simp only []; split <;> first | rfl | (exfalso; revert hk; decide), by unfold fq; simp only []; split <;> first | rfl | (exfalso; revert hk; decide), by unfold f0; simp only []; split <;> first | rfl | (exfalso; revert hk; decide)⟩, rfl, fun _ => rfl, fun _ => rfl, rfl, rfl, rfl, rfl, rfl⟩
def fs_13 : List Value := [zV 0 0 0, zV 3 0 0, zV 0 0 0, zV 0 0 0, zV 0 0 0, zV 0 0 0, zV 0 0 0, zV 0 0 0, zV 0 0 0, zV 3 0 0, zV 3 0 0, zV 3 0 0, zV 3 0 0, zV 3 0 0, zV 3 0 0, zV 3 0 0, zV 3 0 0, zV 3 0 0, zV 3 0 0, zV 3 0 0, zV 3 0 0, zV 0 0 0, zV 0 0 0, zV 0 0 0, zV 0 0 0, zV 0 0 0, zV 0 0 0, zV 3 0 0, zV 3 0 0, zV 3 0 0, zV 3 0 0, zV 3 0 0, zV 3 0 0, zV 3 0 0, zV 3 0 0, zV 3 0 0, zV 3 0 0, zV 3 0 0, zV 0 0 0, zV 3 0 0, zV 3 0 0, zV 0 0 0, zV 3 0 0, zV 0 0 0, zV 0 0 0, zV 3 0 0, zV 3 0 0, zV 3 0 0, zV 3 0 0, zV 3 0 0, zV 3 0 0, zV 0 0 0, zV 0 0 0, zV 0 0 0, zV 0 0 0, zV 3 0 0, zV 3 0 0, zV 3 0 0, zV 0 0 0]
theorem hf_13 : ∀ j, j < 59 → defaultValue (tyX12 j) = vp_V fs_13 j := fun j hj => by
  rcases (show j = 0 ∨ j = 1 ∨ j = 2 ∨ j = 3 ∨ j = 4 ∨ j = 5 ∨ j = 6 ∨ j = 7 ∨ j = 8 ∨ j = 9 ∨ j = 10 ∨ j = 11 ∨ j = 12 ∨ j = 13 ∨ j = 14 ∨ j = 15 ∨ j = 16 ∨ j = 17 ∨ j = 18 ∨ j = 19 ∨ j = 20 ∨ j = 21 ∨ j = 22 ∨ j = 23 ∨ j = 24 ∨ j = 25 ∨ j = 26 ∨ j = 27 ∨ j = 28 ∨ j = 29 ∨ j = 30 ∨ j = 31 ∨ j = 32 ∨ j = 33 ∨ j = 34 ∨ j = 35 ∨ j = 36 ∨ j = 37 ∨ j = 38 ∨ j = 39 ∨ j = 40 ∨ j = 41 ∨ j = 42 ∨ j = 43 ∨ j = 44 ∨ j = 45 ∨ j = 46 ∨ j = 47 ∨ j = 48 ∨ j = 49 ∨ j = 50 ∨ j = 51 ∨ j = 52 ∨ j = 53 ∨ j = 54 ∨ j = 55 ∨ j = 56 ∨ j = 57 ∨ j = 58 by omega) with rfl | rfl | rfl | rfl | rfl | rfl | rfl | rfl | rfl | rfl | rfl | rfl | rfl | rfl | rfl | rfl | rfl | rfl | rfl | rfl | rfl | rfl | rfl | rfl | rfl | rfl | rfl | rfl | rfl | rfl | rfl | rfl | rfl | rfl | rfl | rfl | rfl | rfl | rfl | rfl | rfl | rfl | rfl | rfl | rfl | rfl | rfl | rfl | rfl | rfl | rfl | rfl | rfl | rfl | rfl | rfl | rfl | rfl | rfl
  all_goals rfl
theorem he_13 {E : zE} : ∀ r : Nat → Nat, zC E 33 0 r (fun _ => 0) = .inr (12, fs_13) := fun _ => rfl
theorem ar_33_0 : zArr 33 0 := ⟨by decide, fun _ => rfl, fun m h => by cases h, by decide, fun _ => rfl, fun k r h => by cases h, fun _ => rfl, fun k v h => by cases h⟩
theorem ar_41_60 : zArr 41 60 := ⟨by decide, fun _ => rfl, fun m h => by cases h; rfl, by decide, fun _ => rfl, fun k r h => by cases h; exact ⟨by decide, by decide⟩, fun _ => rfl, fun k v h => by cases h; rfl⟩
theorem ar_46_150 : zArr 46 150 := ⟨by decide, fun _ => rfl, fun m h => by cases h, by decide, fun _ => rfl, fun k r h => by cases h; exact ⟨by decide, by decide⟩, fun _ => rfl, fun k v h => by cases h⟩
theorem ar_42_15 : zArr 42 15 := ⟨by decide, fun _ => rfl, fun m h => by cases h; rfl, by decide, fun _ => rfl, fun k r h => by cases h; exact ⟨by decide, by decide⟩, fun _ => rfl, fun k v h => by cases h; rfl⟩
theorem ar_43_12 : zArr 43 12 := ⟨by decide, fun _ => rfl, fun m h => by cases h; rfl, by decide, fun _ => rfl, fun k r h => by cases h; exact ⟨by decide, by decide⟩, fun _ => rfl, fun k v h => by cases h; rfl⟩
theorem ar_44_3 : zArr 44 3 := ⟨by decide, fun _ => rfl, fun m h => by cases h; rfl, by decide, fun _ => rfl, fun k r h => by cases h; exact ⟨by decide, by decide⟩, fun _ => rfl, fun k v h => by cases h; rfl⟩
theorem ar_45_600 : zArr 45 600 := ⟨by decide, fun _ => rfl, fun m h => by cases h; rfl, by decide, fun _ => rfl, fun k r h => by cases h; exact ⟨by decide, by decide⟩, fun _ => rfl, fun k v h => by cases h; rfl⟩
theorem ar_47_12 : zArr 47 12 := ⟨by decide, fun _ => rfl, fun m h => by cases h; rfl, by decide, fun _ => rfl, fun k r h => by cases h; exact ⟨by decide, by decide⟩, fun _ => rfl, fun k v h => by cases h; rfl⟩
theorem ar_48_12 : zArr 48 12 := ⟨by decide, fun _ => rfl, fun m h => by cases h; rfl, by decide, fun _ => rfl, fun k r h => by cases h; exact ⟨by decide, by decide⟩, fun _ => rfl, fun k v h => by cases h; rfl⟩
theorem ar_49_6 : zArr 49 6 := ⟨by decide, fun _ => rfl, fun m h => by cases h; rfl, by decide, fun _ => rfl, fun k r h => by cases h; exact ⟨by decide, by decide⟩, fun _ => rfl, fun k v h => by cases h; rfl⟩
theorem ar_50_21 : zArr 50 21 := ⟨by decide, fun _ => rfl, fun m h => by cases h; rfl, by decide, fun _ => rfl, fun k r h => by cases h; exact ⟨by decide, by decide⟩, fun _ => rfl, fun k v h => by cases h; rfl⟩
theorem ar_51_5 : zArr 51 5 := ⟨by decide, fun _ => rfl, fun m h => by cases h; rfl, by decide, fun _ => rfl, fun k r h => by cases h; exact ⟨by decide, by decide⟩, fun _ => rfl, fun k v h => by cases h; rfl⟩
theorem ar_52_3 : zArr 52 3 := ⟨by decide, fun _ => rfl, fun m h => by cases h; rfl, by decide, fun _ => rfl, fun k r h => by cases h; exact ⟨by decide, by decide⟩, fun _ => rfl, fun k v h => by cases h; rfl⟩
theorem ar_53_21007 : zArr 53 21007 := ⟨by decide, fun _ => rfl, fun m h => by cases h, by decide, fun _ => rfl, fun k r h => by cases h; exact ⟨by decide, by decide⟩, fun _ => rfl, fun k v h => by cases h; rfl⟩
theorem ar_54_4096 : zArr 54 4096 := ⟨by decide, fun _ => rfl, fun m h => by cases h; rfl, by decide, fun _ => rfl, fun k r h => by cases h; exact ⟨by decide, by decide⟩, fun _ => rfl, fun k v h => by cases h; rfl⟩
theorem ar_55_3001 : zArr 55 3001 := ⟨by decide, fun _ => rfl, fun m h => by cases h; rfl, by decide, fun _ => rfl, fun k r h => by cases h; exact ⟨by decide, by decide⟩, fun _ => rfl, fun k v h => by cases h; rfl⟩
theorem ar_56_13 : zArr 56 13 := ⟨by decide, fun _ => rfl, fun m h => by cases h; rfl, by decide, fun _ => rfl, fun k r h => by cases h, fun _ => rfl, fun k v h => by cases h⟩
theorem ar_57_323 : zArr 57 323 := ⟨by decide, fun _ => rfl, fun m h => by cases h; rfl, by decide, fun _ => rfl, fun k r h => by cases h; exact ⟨by decide, by decide⟩, fun _ => rfl, fun k v h => by cases h; rfl⟩
theorem ar_53_3584 : zArr 53 3584 := ⟨by decide, fun _ => rfl, fun m h => by cases h, by decide, fun _ => rfl, fun k r h => by cases h; exact ⟨by decide, by decide⟩, fun _ => rfl, fun k v h => by cases h; rfl⟩
theorem ar_59_10752 : zArr 59 10752 := ⟨by decide, fun _ => rfl, fun m h => by cases h; rfl, by decide, fun _ => rfl, fun k r h => by cases h; exact ⟨by decide, by decide⟩, fun _ => rfl, fun k v h => by cases h; rfl⟩
theorem ar_60_512 : zArr 60 512 := ⟨by decide, fun _ => rfl, fun m h => by cases h; rfl, by decide, fun _ => rfl, fun k r h => by cases h; exact ⟨by decide, by decide⟩, fun _ => rfl, fun k v h => by cases h; rfl⟩
theorem ar_71_2 : zArr 71 2 := ⟨by decide, fun _ => rfl, fun m h => by cases h; rfl, by decide, fun _ => rfl, fun k r h => by cases h; exact ⟨by decide, by decide⟩, fun _ => rfl, fun k v h => by cases h; rfl⟩
theorem ar_72_600 : zArr 72 600 := ⟨by decide, fun _ => rfl, fun m h => by cases h; rfl, by decide, fun _ => rfl, fun k r h => by cases h; exact ⟨by decide, by decide⟩, fun _ => rfl, fun k v h => by cases h; rfl⟩
theorem ar_73_12 : zArr 73 12 := ⟨by decide, fun _ => rfl, fun m h => by cases h; rfl, by decide, fun _ => rfl, fun k r h => by cases h; exact ⟨by decide, by decide⟩, fun _ => rfl, fun k v h => by cases h; rfl⟩
theorem ar_74_3 : zArr 74 3 := ⟨by decide, fun _ => rfl, fun m h => by cases h; rfl, by decide, fun _ => rfl, fun k r h => by cases h; exact ⟨by decide, by decide⟩, fun _ => rfl, fun k v h => by cases h; rfl⟩
theorem ar_75_180 : zArr 75 180 := ⟨by decide, fun _ => rfl, fun m h => by cases h; rfl, by decide, fun _ => rfl, fun k r h => by cases h; exact ⟨by decide, by decide⟩, fun _ => rfl, fun k v h => by cases h; rfl⟩
theorem ar_76_3 : zArr 76 3 := ⟨by decide, fun _ => rfl, fun m h => by cases h; rfl, by decide, fun _ => rfl, fun k r h => by cases h; exact ⟨by decide, by decide⟩, fun _ => rfl, fun k v h => by cases h; rfl⟩
theorem ar_77_3 : zArr 77 3 := ⟨by decide, fun _ => rfl, fun m h => by cases h; rfl, by decide, fun _ => rfl, fun k r h => by cases h; exact ⟨by decide, by decide⟩, fun _ => rfl, fun k v h => by cases h; rfl⟩
theorem ar_78_3 : zArr 78 3 := ⟨by decide, fun _ => rfl, fun m h => by cases h; rfl, by decide, fun _ => rfl, fun k r h => by cases h; exact ⟨by decide, by decide⟩, fun _ => rfl, fun k v h => by cases h; rfl⟩
theorem ar_79_12 : zArr 79 12 := ⟨by decide, fun _ => rfl, fun m h => by cases h; rfl, by decide, fun _ => rfl, fun k r h => by cases h; exact ⟨by decide, by decide⟩, fun _ => rfl, fun k v h => by cases h; rfl⟩
theorem ar_80_12 : zArr 80 12 := ⟨by decide, fun _ => rfl, fun m h => by cases h; rfl, by decide, fun _ => rfl, fun k r h => by cases h; exact ⟨by decide, by decide⟩, fun _ => rfl, fun k v h => by cases h; rfl⟩
theorem ar_81_3 : zArr 81 3 := ⟨by decide, fun _ => rfl, fun m h => by cases h; rfl, by decide, fun _ => rfl, fun k r h => by cases h; exact ⟨by decide, by decide⟩, fun _ => rfl, fun k v h => by cases h; rfl⟩
theorem ar_82_60 : zArr 82 60 := ⟨by decide, fun _ => rfl, fun m h => by cases h; rfl, by decide, fun _ => rfl, fun k r h => by cases h; exact ⟨by decide, by decide⟩, fun _ => rfl, fun k v h => by cases h; rfl⟩
theorem ar_83_12 : zArr 83 12 := ⟨by decide, fun _ => rfl, fun m h => by cases h; rfl, by decide, fun _ => rfl, fun k r h => by cases h; exact ⟨by decide, by decide⟩, fun _ => rfl, fun k v h => by cases h; rfl⟩
theorem ar_84_515 : zArr 84 515 := ⟨by decide, fun _ => rfl, fun m h => by cases h; rfl, by decide, fun _ => rfl, fun k r h => by obtain ⟨q, e1, e2⟩ := aqZ_84 k; rw [e1] at h; cases h; exact e2, fun _ => rfl, fun k v h => by cases h; rfl⟩
theorem ar_85_515 : zArr 85 515 := ⟨by decide, fun _ => rfl, fun m h => by cases h; rfl, by decide, fun _ => rfl, fun k r h => by cases h; exact ⟨by decide, by decide⟩, fun _ => rfl, fun k v h => by cases h; rfl⟩
theorem ar_86_10000 : zArr 86 10000 := ⟨by decide, fun _ => rfl, fun m h => by cases h; rfl, by decide, fun _ => rfl, fun k r h => by cases h; exact ⟨by decide, by decide⟩, fun _ => rfl, fun k v h => by cases h; rfl⟩
theorem ar_87_5 : zArr 87 5 := ⟨by decide, fun _ => rfl, fun m h => by cases h; rfl, by decide, fun _ => rfl, fun k r h => by cases h; exact ⟨by decide, by decide⟩, fun _ => rfl, fun k v h => by cases h; rfl⟩
theorem ar_88_150 : zArr 88 150 := ⟨by decide, fun _ => rfl, fun m h => by cases h; rfl, by decide, fun _ => rfl, fun k r h => by cases h; exact ⟨by decide, by decide⟩, fun _ => rfl, fun k v h => by cases h; rfl⟩
theorem ar_89_150 : zArr 89 150 := ⟨by decide, fun _ => rfl, fun m h => by cases h; rfl, by decide, fun _ => rfl, fun k r h => by cases h; exact ⟨by decide, by decide⟩, fun _ => rfl, fun k v h => by cases h; rfl⟩
theorem ar_90_150 : zArr 90 150 := ⟨by decide, fun _ => rfl, fun m h => by cases h; rfl, by decide, fun _ => rfl, fun k r h => by cases h; exact ⟨by decide, by decide⟩, fun _ => rfl, fun k v h => by cases h; rfl⟩
theorem ar_91_900 : zArr 91 900 := ⟨by decide, fun _ => rfl, fun m h => by cases h; rfl, by decide, fun _ => rfl, fun k r h => by cases h; exact ⟨by decide, by decide⟩, fun _ => rfl, fun k v h => by cases h⟩
theorem ar_92_900 : zArr 92 900 := ⟨by decide, fun _ => rfl, fun m h => by cases h; rfl, by decide, fun _ => rfl, fun k r h => by cases h; exact ⟨by decide, by decide⟩, fun _ => rfl, fun k v h => by cases h; rfl⟩
theorem ar_93_900 : zArr 93 900 := ⟨by decide, fun _ => rfl, fun m h => by cases h; rfl, by decide, fun _ => rfl, fun k r h => by cases h; exact ⟨by decide, by decide⟩, fun _ => rfl, fun k v h => by cases h; rfl⟩
theorem ar_94_6 : zArr 94 6 := ⟨by decide, fun _ => rfl, fun m h => by cases h; rfl, by decide, fun _ => rfl, fun k r h => by cases h; exact ⟨by decide, by decide⟩, fun _ => rfl, fun k v h => by cases h; rfl⟩
theorem ar_96_24 : zArr 96 24 := ⟨by decide, fun _ => rfl, fun m h => by cases h; rfl, by decide, fun _ => rfl, fun k r h => by cases h; exact ⟨by decide, by decide⟩, fun _ => rfl, fun k v h => by cases h; rfl⟩
theorem ar_97_24 : zArr 97 24 := ⟨by decide, fun _ => rfl, fun m h => by cases h; rfl, by decide, fun _ => rfl, fun k r h => by cases h; exact ⟨by decide, by decide⟩, fun _ => rfl, fun k v h => by cases h; rfl⟩
theorem ar_95_150 : zArr 95 150 := ⟨by decide, fun _ => rfl, fun m h => by cases h; rfl, by decide, fun _ => rfl, fun k r h => by cases h; exact ⟨by decide, by decide⟩, fun _ => rfl, fun k v h => by cases h; rfl⟩
theorem ar_98_3 : zArr 98 3 := ⟨by decide, fun _ => rfl, fun m h => by cases h; rfl, by decide, fun _ => rfl, fun k r h => by cases h; exact ⟨by decide, by decide⟩, fun _ => rfl, fun k v h => by cases h; rfl⟩
theorem ar_99_515 : zArr 99 515 := ⟨by decide, fun _ => rfl, fun m h => by cases h; rfl, by decide, fun _ => rfl, fun k r h => by obtain ⟨q, e1, e2⟩ := aqZ_99 k; rw [e1] at h; cases h; exact e2, fun _ => rfl, fun k v h => by cases h; rfl⟩
theorem ar_100_5 : zArr 100 5 := ⟨by decide, fun _ => rfl, fun m h => by cases h; rfl, by decide, fun _ => rfl, fun k r h => by cases h; exact ⟨by decide, by decide⟩, fun _ => rfl, fun k v h => by cases h; rfl⟩
theorem ar_101_210070 : zArr 101 210070 := ⟨by decide, fun _ => rfl, fun m h => by cases h; rfl, by decide, fun _ => rfl, fun k r h => by cases h; exact ⟨by decide, by decide⟩, fun _ => rfl, fun k v h => by cases h; rfl⟩
theorem ar_102_3001 : zArr 102 3001 := ⟨by decide, fun _ => rfl, fun m h => by cases h; rfl, by decide, fun _ => rfl, fun k r h => by cases h; exact ⟨by decide, by decide⟩, fun _ => rfl, fun k v h => by cases h; rfl⟩
theorem ar_103_8192 : zArr 103 8192 := ⟨by decide, fun _ => rfl, fun m h => by cases h; rfl, by decide, fun _ => rfl, fun k r h => by cases h; exact ⟨by decide, by decide⟩, fun _ => rfl, fun k v h => by cases h; rfl⟩
theorem ar_104_6695 : zArr 104 6695 := ⟨by decide, fun _ => rfl, fun m h => by cases h; rfl, by decide, fun _ => rfl, fun k r h => by cases h; exact ⟨by decide, by decide⟩, fun _ => rfl, fun k v h => by cases h; rfl⟩
theorem ar_105_6 : zArr 105 6 := ⟨by decide, fun _ => rfl, fun m h => by cases h; rfl, by decide, fun _ => rfl, fun k r h => by cases h; exact ⟨by decide, by decide⟩, fun _ => rfl, fun k v h => by cases h; rfl⟩
theorem ar_106_39663 : zArr 106 39663 := ⟨by decide, fun _ => rfl, fun m h => by cases h; rfl, by decide, fun _ => rfl, fun k r h => by cases h; exact ⟨by decide, by decide⟩, fun _ => rfl, fun k v h => by cases h; rfl⟩
set_option maxHeartbeats 4000000 in
set_option maxRecDepth 20000 in
theorem c_X6_init {E : zE} {l : Launch} (hst : l.stackTraces = false) (a : Nat) : Con E l yX6_init cX6_init 1 none { frames := 1, cells := 1, slots := 60, locals := 20 } (fun G s vs => vs = [.ref a] ∧ zOK G s ∧ gT G a = 27 ∧ (∀ k, s a k = 0)) (fun G s _ => pV (fun G2 s2 => zOK G2 s2 ∧ gT G2 a = 7 ∧ zYa a G s G2 s2 ∧ zNc a G G2)) := by
  refine Con.mk hst (by decide) (fun G s vs h => by rw [h.1]; exact Nat.le_of_ble_eq_true rfl) ?_
  rintro X G s0 vs ⟨rfl, hO, ha, hz⟩ rfl hx hq
  show JJ X E 1 G s0 0 0 [(0, .ref a)] 0 []
  have hB0 := zB_0 (t := 7) hO ha hz (by decide)
  refine j_aload_n hx 0 dX6_init_0 rfl ?_
  refine j_objI hx km_RX6_3 ⟨by decide, by decide⟩ dX6_init_1 ?_
  refine j_aload_n hx 0 dX6_init_4 rfl ?_
  refine j_bipush hx dX6_init_5 rfl ?_
  refine j_newA hx (zB_K hB0) (kd := 2) (t := 41) (N := 60) rfl ka_int rfl (fun _ _ h => h) (a := (60, .inl (fun _ => zI 0))) (fun _ => rfl) (fun _ => rfl) rfl (by decide) (by decide) ⟨by decide, by decide⟩ dX6_init_7 (fun q1 hq1 => ?_)
  refine p27_0 hx (zGK_push (zB_K hB0) hq1 ar_41_60) (gT_put hq1 (zB_a hB0) (by decide)) kf_RX6_9 rfl rfl dX6_init_9 ?_
  refine j_ren (P := fun G9 s9 => zB G s0 a 7 [(0, 41, 0)] G9 s9) (zB_arr hB0 rw_7 (by decide) hq1 ar_41_60) (fun G2 s2 hB2 => ?_)
  refine j_pub hB2 (by decide +kernel) cl_7 ?_
  exact j_vret hx hq rfl (by decide) (by decide) dX6_init_12 ⟨rfl, zPub_OK hB2 (by decide +kernel) cl_7, pT_eq, zPub_Y hB2, zPub_c hB2 (by decide)⟩

theorem lk_RX0_11 : LkIN RX0 11 RX11 yX6_init cX6_init 1 0 := ⟨km_RX0_11, ki_yX6_init, kn_RX6, kc_yX6_init, rfl, by decide +kernel, by decide +kernel, by decide +kernel⟩
set_option maxHeartbeats 4000000 in
set_option maxRecDepth 20000 in
theorem c_X0_init {E : zE} {l : Launch} (hst : l.stackTraces = false) (a : Nat) : Con E l yX0_init cX0_init 1 none { frames := 2, cells := 14, slots := 434, locals := 40 } (fun G s vs => vs = [.ref a] ∧ zOK G s ∧ gT G a = 21 ∧ (∀ k, s a k = 0)) (fun G s _ => pV (fun G2 s2 => zOK G2 s2 ∧ gT G2 a = 1 ∧ zYa a G s G2 s2 ∧ zNc a G G2)) := by
  refine Con.mk hst (by decide) (fun G s vs h => by rw [h.1]; exact Nat.le_of_ble_eq_true rfl) ?_
  rintro X G s0 vs ⟨rfl, hO, ha, hz⟩ rfl hx hq
  show JJ X E 1 G s0 0 0 [(0, .ref a)] 0 []
  have hB0 := zB_0 (t := 1) hO ha hz (by decide)
  refine j_aload_n hx 0 dX0_init_0 rfl ?_
  refine j_objI hx km_RX0_3 ⟨by decide, by decide⟩ dX0_init_1 ?_
  refine j_aload_n hx 0 dX0_init_4 rfl ?_
  skip
  refine j_newO hx (zB_K hB0) (t := 27) inX6 tyX6_ok kl_RX0_9 kt_RX6 kn_RX6 rfl hf_7 he_7 ⟨by decide, by decide⟩ dX0_init_5 (fun q1 hq1 => ?_)
  refine j_dup hx dX0_init_8 rfl ?_
  refine j_callIN hx (c_X6_init hst q1) lk_RX0_11 [] ⟨rfl, (zB_new hB0 hq1 ar_27_0).1, (zB_new hB0 hq1 ar_27_0).2.1, (zB_new hB0 hq1 ar_27_0).2.2⟩ rfl rfl ⟨by decide, by decide⟩ ⟨by decide, by decide⟩ (k2 := 2) (n2 := 62) rfl rfl (Nat.le_of_ble_eq_true rfl) dX0_init_9 (kV (fun G2 s2 hP2 => ?_))
  have hB2 := zB_obj hB0 hq1 hP2.1 hP2.2.1 hP2.2.2.1 hP2.2.2.2 (by decide)
  refine p21_0 hx (zB_K hB2) (zB_a hB2) kf_RX0_12 rfl rfl dX0_init_12 ?_
  refine j_ren (P := fun G9 s9 => zB G s0 a 1 [(0, 7, 0)] G9 s9) (zB_ref hB2 rw_1 (by decide) (by decide) hP2.2.1) (fun G3 s3 hB3 => ?_)
  refine j_aload_n hx 0 dX0_init_15 rfl ?_
  skip
  refine j_newO hx (zB_K hB3) (t := 27) inX6 tyX6_ok kl_RX0_9 kt_RX6 kn_RX6 rfl hf_7 he_7 ⟨by decide, by decide⟩ dX0_init_16 (fun q4 hq4 => ?_)
  refine j_dup hx dX0_init_19 rfl ?_
  refine j_callIN hx (c_X6_init hst q4) lk_RX0_11 [] ⟨rfl, (zB_new hB3 hq4 ar_27_0).1, (zB_new hB3 hq4 ar_27_0).2.1, (zB_new hB3 hq4 ar_27_0).2.2⟩ rfl rfl ⟨by decide, by decide⟩ ⟨by decide, by decide⟩ (k2 := 4) (n2 := 124) rfl rfl (Nat.le_of_ble_eq_true rfl) dX0_init_20 (kV (fun G5 s5 hP5 => ?_))
  have hB5 := zB_obj hB3 hq4 hP5.1 hP5.2.1 hP5.2.2.1 hP5.2.2.2 (by decide)
  refine p21_1 hx (zB_K hB5) (zB_a hB5) kf_RX0_18 rfl rfl dX0_init_23 ?_
  refine j_ren (P := fun G9 s9 => zB G s0 a 1 [(1, 7, 0), (0, 7, 0)] G9 s9) (zB_ref hB5 rw_1 (by decide) (by decide) hP5.2.1) (fun G6 s6 hB6 => ?_)
  refine j_aload_n hx 0 dX0_init_26 rfl ?_
  skip
  refine j_newO hx (zB_K hB6) (t := 27) inX6 tyX6_ok kl_RX0_9 kt_RX6 kn_RX6 rfl hf_7 he_7 ⟨by decide, by decide⟩ dX0_init_27 (fun q7 hq7 => ?_)
  refine j_dup hx dX0_init_30 rfl ?_
  refine j_callIN hx (c_X6_init hst q7) lk_RX0_11 [] ⟨rfl, (zB_new hB6 hq7 ar_27_0).1, (zB_new hB6 hq7 ar_27_0).2.1, (zB_new hB6 hq7 ar_27_0).2.2⟩ rfl rfl ⟨by decide, by decide⟩ ⟨by decide, by decide⟩ (k2 := 6) (n2 := 186) rfl rfl (Nat.le_of_ble_eq_true rfl) dX0_init_31 (kV (fun G8 s8 hP8 => ?_))
  have hB8 := zB_obj hB6 hq7 hP8.1 hP8.2.1 hP8.2.2.1 hP8.2.2.2 (by decide)
  refine p21_2 hx (zB_K hB8) (zB_a hB8) kf_RX0_21 rfl rfl dX0_init_34 ?_
  refine j_ren (P := fun G9 s9 => zB G s0 a 1 [(2, 7, 0), (1, 7, 0), (0, 7, 0)] G9 s9) (zB_ref hB8 rw_1 (by decide) (by decide) hP8.2.1) (fun G9 s9 hB9 => ?_)
  refine j_aload_n hx 0 dX0_init_37 rfl ?_
  skip
  refine j_newO hx (zB_K hB9) (t := 27) inX6 tyX6_ok kl_RX0_9 kt_RX6 kn_RX6 rfl hf_7 he_7 ⟨by decide, by decide⟩ dX0_init_38 (fun q10 hq10 => ?_)
  refine j_dup hx dX0_init_41 rfl ?_
  refine j_callIN hx (c_X6_init hst q10) lk_RX0_11 [] ⟨rfl, (zB_new hB9 hq10 ar_27_0).1, (zB_new hB9 hq10 ar_27_0).2.1, (zB_new hB9 hq10 ar_27_0).2.2⟩ rfl rfl ⟨by decide, by decide⟩ ⟨by decide, by decide⟩ (k2 := 8) (n2 := 248) rfl rfl (Nat.le_of_ble_eq_true rfl) dX0_init_42 (kV (fun G11 s11 hP11 => ?_))
  have hB11 := zB_obj hB9 hq10 hP11.1 hP11.2.1 hP11.2.2.1 hP11.2.2.2 (by decide)
  refine p21_3 hx (zB_K hB11) (zB_a hB11) kf_RX0_24 rfl rfl dX0_init_45 ?_
  refine j_ren (P := fun G9 s9 => zB G s0 a 1 [(3, 7, 0), (2, 7, 0), (1, 7, 0), (0, 7, 0)] G9 s9) (zB_ref hB11 rw_1 (by decide) (by decide) hP11.2.1) (fun G12 s12 hB12 => ?_)
  refine j_aload_n hx 0 dX0_init_48 rfl ?_
  skip
  refine j_newO hx (zB_K hB12) (t := 27) inX6 tyX6_ok kl_RX0_9 kt_RX6 kn_RX6 rfl hf_7 he_7 ⟨by decide, by decide⟩ dX0_init_49 (fun q13 hq13 => ?_)
  refine j_dup hx dX0_init_52 rfl ?_
  refine j_callIN hx (c_X6_init hst q13) lk_RX0_11 [] ⟨rfl, (zB_new hB12 hq13 ar_27_0).1, (zB_new hB12 hq13 ar_27_0).2.1, (zB_new hB12 hq13 ar_27_0).2.2⟩ rfl rfl ⟨by decide, by decide⟩ ⟨by decide, by decide⟩ (k2 := 10) (n2 := 310) rfl rfl (Nat.le_of_ble_eq_true rfl) dX0_init_53 (kV (fun G14 s14 hP14 => ?_))
  have hB14 := zB_obj hB12 hq13 hP14.1 hP14.2.1 hP14.2.2.1 hP14.2.2.2 (by decide)
  refine p21_4 hx (zB_K hB14) (zB_a hB14) kf_RX0_27 rfl rfl dX0_init_56 ?_
  refine j_ren (P := fun G9 s9 => zB G s0 a 1 [(4, 7, 0), (3, 7, 0), (2, 7, 0), (1, 7, 0), (0, 7, 0)] G9 s9) (zB_ref hB14 rw_1 (by decide) (by decide) hP14.2.1) (fun G15 s15 hB15 => ?_)
  refine j_aload_n hx 0 dX0_init_59 rfl ?_
  skip
  refine j_newO hx (zB_K hB15) (t := 27) inX6 tyX6_ok kl_RX0_9 kt_RX6 kn_RX6 rfl hf_7 he_7 ⟨by decide, by decide⟩ dX0_init_60 (fun q16 hq16 => ?_)
  refine j_dup hx dX0_init_63 rfl ?_
  refine j_callIN hx (c_X6_init hst q16) lk_RX0_11 [] ⟨rfl, (zB_new hB15 hq16 ar_27_0).1, (zB_new hB15 hq16 ar_27_0).2.1, (zB_new hB15 hq16 ar_27_0).2.2⟩ rfl rfl ⟨by decide, by decide⟩ ⟨by decide, by decide⟩ (k2 := 12) (n2 := 372) rfl rfl (Nat.le_of_ble_eq_true rfl) dX0_init_64 (kV (fun G17 s17 hP17 => ?_))
  have hB17 := zB_obj hB15 hq16 hP17.1 hP17.2.1 hP17.2.2.1 hP17.2.2.2 (by decide)
  refine p21_5 hx (zB_K hB17) (zB_a hB17) kf_RX0_30 rfl rfl dX0_init_67 ?_
  refine j_ren (P := fun G9 s9 => zB G s0 a 1 [(5, 7, 0), (4, 7, 0), (3, 7, 0), (2, 7, 0), (1, 7, 0), (0, 7, 0)] G9 s9) (zB_ref hB17 rw_1 (by decide) (by decide) hP17.2.1) (fun G18 s18 hB18 => ?_)
  refine j_aload_n hx 0 dX0_init_70 rfl ?_
  skip
  refine j_newO hx (zB_K hB18) (t := 27) inX6 tyX6_ok kl_RX0_9 kt_RX6 kn_RX6 rfl hf_7 he_7 ⟨by decide, by decide⟩ dX0_init_71 (fun q19 hq19 => ?_)
  refine j_dup hx dX0_init_74 rfl ?_
  refine j_callIN hx (c_X6_init hst q19) lk_RX0_11 [] ⟨rfl, (zB_new hB18 hq19 ar_27_0).1, (zB_new hB18 hq19 ar_27_0).2.1, (zB_new hB18 hq19 ar_27_0).2.2⟩ rfl rfl ⟨by decide, by decide⟩ ⟨by decide, by decide⟩ (k2 := 14) (n2 := 434) rfl rfl (Nat.le_of_ble_eq_true rfl) dX0_init_75 (kV (fun G20 s20 hP20 => ?_))
  have hB20 := zB_obj hB18 hq19 hP20.1 hP20.2.1 hP20.2.2.1 hP20.2.2.2 (by decide)
  refine p21_6 hx (zB_K hB20) (zB_a hB20) kf_RX0_33 rfl rfl dX0_init_78 ?_
  refine j_ren (P := fun G9 s9 => zB G s0 a 1 [(6, 7, 0), (5, 7, 0), (4, 7, 0), (3, 7, 0), (2, 7, 0), (1, 7, 0), (0, 7, 0)] G9 s9) (zB_ref hB20 rw_1 (by decide) (by decide) hP20.2.1) (fun G21 s21 hB21 => ?_)
  refine j_pub hB21 (by decide +kernel) cl_1 ?_
  exact j_vret hx hq rfl (by decide) (by decide) dX0_init_81 ⟨rfl, zPub_OK hB21 (by decide +kernel) cl_1, pT_eq, zPub_Y hB21, zPub_c hB21 (by decide)⟩

set_option maxHeartbeats 4000000 in
set_option maxRecDepth 20000 in
theorem c_X7_init {E : zE} {l : Launch} (hst : l.stackTraces = false) (a : Nat) : Con E l yX7_init cX7_init 1 none { frames := 1, cells := 1, slots := 150, locals := 20 } (fun G s vs => vs = [.ref a] ∧ zOK G s ∧ gT G a = 28 ∧ (∀ k, s a k = 0)) (fun G s _ => pV (fun G2 s2 => zOK G2 s2 ∧ gT G2 a = 8 ∧ zYa a G s G2 s2 ∧ zNc a G G2)) := by
  refine Con.mk hst (by decide) (fun G s vs h => by rw [h.1]; exact Nat.le_of_ble_eq_true rfl) ?_
  rintro X G s0 vs ⟨rfl, hO, ha, hz⟩ rfl hx hq
  show JJ X E 1 G s0 0 0 [(0, .ref a)] 0 []
  have hB0 := zB_0 (t := 8) hO ha hz (by decide)
  refine j_aload_n hx 0 dX7_init_0 rfl ?_
  refine j_objI hx km_RX7_3 ⟨by decide, by decide⟩ dX7_init_1 ?_
  refine j_aload_n hx 0 dX7_init_4 rfl ?_
  refine j_sipush hx dX7_init_5 rfl ?_
  refine j_newA hx (zB_K hB0) (kd := 2) (t := 46) (N := 150) rfl ka_int rfl (fun _ _ h => h) (a := (150, .inl (fun _ => zI 0))) (fun _ => rfl) (fun _ => rfl) rfl (by decide) (by decide) ⟨by decide, by decide⟩ dX7_init_8 (fun q1 hq1 => ?_)
  refine p28_0 hx (zGK_push (zB_K hB0) hq1 ar_46_150) (gT_put hq1 (zB_a hB0) (by decide)) kf_RX7_11 rfl rfl dX7_init_10 ?_
  refine j_ren (P := fun G9 s9 => zB G s0 a 8 [(0, 46, 0)] G9 s9) (zB_arr hB0 rw_8 (by decide) hq1 ar_46_150) (fun G2 s2 hB2 => ?_)
  refine j_pub hB2 (by decide +kernel) cl_8 ?_
  exact j_vret hx hq rfl (by decide) (by decide) dX7_init_13 ⟨rfl, zPub_OK hB2 (by decide +kernel) cl_8, pT_eq, zPub_Y hB2, zPub_c hB2 (by decide)⟩

theorem lk_RX8_23 : LkIN RX8 23 RX11 yX0_init cX0_init 1 0 := ⟨km_RX8_23, ki_yX0_init, kn_RX0, kc_yX0_init, rfl, by decide +kernel, by decide +kernel, by decide +kernel⟩
set_option maxHeartbeats 4000000 in
set_option maxRecDepth 20000 in
theorem c_X8_init {E : zE} {l : Launch} (hst : l.stackTraces = false) (a : Nat) : Con E l yX8_init cX8_init 1 none { frames := 3, cells := 18, slots := 473, locals := 60 } (fun G s vs => vs = [.ref a] ∧ zOK G s ∧ gT G a = 29 ∧ (∀ k, s a k = 0)) (fun G s _ => pV (fun G2 s2 => zOK G2 s2 ∧ gT G2 a = 9 ∧ zYa a G s G2 s2 ∧ zNc a G G2)) := by
  refine Con.mk hst (by decide) (fun G s vs h => by rw [h.1]; exact Nat.le_of_ble_eq_true rfl) ?_
  rintro X G s0 vs ⟨rfl, hO, ha, hz⟩ rfl hx hq
  show JJ X E 1 G s0 0 0 [(0, .ref a)] 0 []
  have hB0 := zB_0 (t := 9) hO ha hz (by decide)
  refine j_aload_n hx 0 dX8_init_0 rfl ?_
  refine j_objI hx km_RX8_3 ⟨by decide, by decide⟩ dX8_init_1 ?_
  refine j_aload_n hx 0 dX8_init_4 rfl ?_
  refine j_bipush hx dX8_init_5 rfl ?_
  refine j_newA hx (zB_K hB0) (kd := 2) (t := 42) (N := 15) rfl ka_int rfl (fun _ _ h => h) (a := (15, .inl (fun _ => zI 0))) (fun _ => rfl) (fun _ => rfl) rfl (by decide) (by decide) ⟨by decide, by decide⟩ dX8_init_7 (fun q1 hq1 => ?_)
  refine p29_0 hx (zGK_push (zB_K hB0) hq1 ar_42_15) (gT_put hq1 (zB_a hB0) (by decide)) kf_RX8_11 rfl rfl dX8_init_9 ?_
  refine j_ren (P := fun G9 s9 => zB G s0 a 9 [(0, 42, 0)] G9 s9) (zB_arr hB0 rw_9 (by decide) hq1 ar_42_15) (fun G2 s2 hB2 => ?_)
  refine j_aload_n hx 0 dX8_init_12 rfl ?_
  refine j_bipush hx dX8_init_13 rfl ?_
  refine j_newA hx (zB_K hB2) (kd := 2) (t := 43) (N := 12) rfl ka_int rfl (fun _ _ h => h) (a := (12, .inl (fun _ => zI 0))) (fun _ => rfl) (fun _ => rfl) rfl (by decide) (by decide) ⟨by decide, by decide⟩ dX8_init_15 (fun q3 hq3 => ?_)
  refine p29_1 hx (zGK_push (zB_K hB2) hq3 ar_43_12) (gT_put hq3 (zB_a hB2) (by decide)) kf_RX8_15 rfl rfl dX8_init_17 ?_
  refine j_ren (P := fun G9 s9 => zB G s0 a 9 [(1, 43, 0), (0, 42, 0)] G9 s9) (zB_arr hB2 rw_9 (by decide) hq3 ar_43_12) (fun G4 s4 hB4 => ?_)
  refine j_aload_n hx 0 dX8_init_20 rfl ?_
  refine j_iconst hx dX8_init_21 ?_
  refine j_newA hx (zB_K hB4) (kd := 2) (t := 44) (N := 3) rfl ka_int rfl (fun _ _ h => h) (a := (3, .inl (fun _ => zI 0))) (fun _ => rfl) (fun _ => rfl) rfl (by decide) (by decide) ⟨by decide, by decide⟩ dX8_init_22 (fun q5 hq5 => ?_)
  refine p29_2 hx (zGK_push (zB_K hB4) hq5 ar_44_3) (gT_put hq5 (zB_a hB4) (by decide)) kf_RX8_18 rfl rfl dX8_init_24 ?_
  refine j_ren (P := fun G9 s9 => zB G s0 a 9 [(2, 44, 0), (1, 43, 0), (0, 42, 0)] G9 s9) (zB_arr hB4 rw_9 (by decide) hq5 ar_44_3) (fun G6 s6 hB6 => ?_)
  refine j_aload_n hx 0 dX8_init_27 rfl ?_
  skip
  refine j_newO hx (zB_K hB6) (t := 21) inX0 tyX0_ok kl_RX8_21 kt_RX0 kn_RX0 rfl hf_1 he_1 ⟨by decide, by decide⟩ dX8_init_28 (fun q7 hq7 => ?_)
  refine j_dup hx dX8_init_31 rfl ?_
  refine j_callIN hx (c_X0_init hst q7) lk_RX8_23 [] ⟨rfl, (zB_new hB6 hq7 ar_21_0).1, (zB_new hB6 hq7 ar_21_0).2.1, (zB_new hB6 hq7 ar_21_0).2.2⟩ rfl rfl ⟨by decide, by decide⟩ ⟨by decide, by decide⟩ (k2 := 18) (n2 := 473) rfl rfl (Nat.le_of_ble_eq_true rfl) dX8_init_32 (kV (fun G8 s8 hP8 => ?_))
  have hB8 := zB_obj hB6 hq7 hP8.1 hP8.2.1 hP8.2.2.1 hP8.2.2.2 (by decide)
  refine p29_3 hx (zB_K hB8) (zB_a hB8) kf_RX8_24 rfl rfl dX8_init_35 ?_
  refine j_ren (P := fun G9 s9 => zB G s0 a 9 [(3, 1, 0), (2, 44, 0), (1, 43, 0), (0, 42, 0)] G9 s9) (zB_ref hB8 rw_9 (by decide) (by decide) hP8.2.1) (fun G9 s9 hB9 => ?_)
  refine j_pub hB9 (by decide +kernel) cl_9 ?_
  exact j_vret hx hq rfl (by decide) (by decide) dX8_init_38 ⟨rfl, zPub_OK hB9 (by decide +kernel) cl_9, pT_eq, zPub_Y hB9, zPub_c hB9 (by decide)⟩

set_option maxHeartbeats 4000000 in
set_option maxRecDepth 20000 in
theorem c_X9_init {E : zE} {l : Launch} (hst : l.stackTraces = false) (a : Nat) : Con E l yX9_init cX9_init 1 none { frames := 1, cells := 1, slots := 600, locals := 20 } (fun G s vs => vs = [.ref a] ∧ zOK G s ∧ gT G a = 30 ∧ (∀ k, s a k = 0)) (fun G s _ => pV (fun G2 s2 => zOK G2 s2 ∧ gT G2 a = 10 ∧ zYa a G s G2 s2 ∧ zNc a G G2)) := by
  refine Con.mk hst (by decide) (fun G s vs h => by rw [h.1]; exact Nat.le_of_ble_eq_true rfl) ?_
  rintro X G s0 vs ⟨rfl, hO, ha, hz⟩ rfl hx hq
  show JJ X E 1 G s0 0 0 [(0, .ref a)] 0 []
  have hB0 := zB_0 (t := 10) hO ha hz (by decide)
  refine j_aload_n hx 0 dX9_init_0 rfl ?_
  refine j_objI hx km_RX9_3 ⟨by decide, by decide⟩ dX9_init_1 ?_
  refine j_aload_n hx 0 dX9_init_4 rfl ?_
  refine j_sipush hx dX9_init_5 rfl ?_
  refine j_newA hx (zB_K hB0) (kd := 4) (t := 45) (N := 600) rfl ka_byte rfl (fun _ _ h => h) (a := (600, .inl (fun _ => zI 0))) (fun _ => rfl) (fun _ => rfl) rfl (by decide) (by decide) ⟨by decide, by decide⟩ dX9_init_8 (fun q1 hq1 => ?_)
  refine p30_0 hx (zGK_push (zB_K hB0) hq1 ar_45_600) (gT_put hq1 (zB_a hB0) (by decide)) kf_RX9_11 rfl rfl dX9_init_10 ?_
  refine j_ren (P := fun G9 s9 => zB G s0 a 10 [(0, 45, 0)] G9 s9) (zB_arr hB0 rw_10 (by decide) hq1 ar_45_600) (fun G2 s2 hB2 => ?_)
  refine j_aload_n hx 0 dX9_init_13 rfl ?_
  refine j_iconst hx dX9_init_14 ?_
  refine p30_5 hx (zB_K hB2) (zB_a hB2) kf_RX9_15 dX9_init_15 ?_
  refine j_ren (P := fun G9 s9 => zB G s0 a 10 [(5, 0, (-1)), (0, 45, 0)] G9 s9) (zB_int hB2 rw_10 (by decide)) (fun G3 s3 hB3 => ?_)
  refine j_pub hB3 (by decide +kernel) cl_10 ?_
  exact j_vret hx hq rfl (by decide) (by decide) dX9_init_18 ⟨rfl, zPub_OK hB3 (by decide +kernel) cl_10, pT_eq, zPub_Y hB3, zPub_c hB3 (by decide)⟩

set_option maxHeartbeats 4000000 in
set_option maxRecDepth 20000 in
theorem c_X1_init {E : zE} {l : Launch} (hst : l.stackTraces = false) (a : Nat) : Con E l yX1_init cX1_init 1 none { frames := 1, cells := 2, slots := 24, locals := 20 } (fun G s vs => vs = [.ref a] ∧ zOK G s ∧ gT G a = 22 ∧ (∀ k, s a k = 0)) (fun G s _ => pV (fun G2 s2 => zOK G2 s2 ∧ gT G2 a = 2 ∧ zYa a G s G2 s2 ∧ zNc a G G2)) := by
  refine Con.mk hst (by decide) (fun G s vs h => by rw [h.1]; exact Nat.le_of_ble_eq_true rfl) ?_
  rintro X G s0 vs ⟨rfl, hO, ha, hz⟩ rfl hx hq
  show JJ X E 1 G s0 0 0 [(0, .ref a)] 0 []
  have hB0 := zB_0 (t := 2) hO ha hz (by decide)
  refine j_aload_n hx 0 dX1_init_0 rfl ?_
  refine j_objI hx km_RX1_3 ⟨by decide, by decide⟩ dX1_init_1 ?_
  refine j_aload_n hx 0 dX1_init_4 rfl ?_
  refine j_bipush hx dX1_init_5 rfl ?_
  refine j_newA hx (zB_K hB0) (kd := 2) (t := 47) (N := 12) rfl ka_int rfl (fun _ _ h => h) (a := (12, .inl (fun _ => zI 0))) (fun _ => rfl) (fun _ => rfl) rfl (by decide) (by decide) ⟨by decide, by decide⟩ dX1_init_7 (fun q1 hq1 => ?_)
  refine p22_0 hx (zGK_push (zB_K hB0) hq1 ar_47_12) (gT_put hq1 (zB_a hB0) (by decide)) kf_RX1_11 rfl rfl dX1_init_9 ?_
  refine j_ren (P := fun G9 s9 => zB G s0 a 2 [(0, 47, 0)] G9 s9) (zB_arr hB0 rw_2 (by decide) hq1 ar_47_12) (fun G2 s2 hB2 => ?_)
  refine j_aload_n hx 0 dX1_init_12 rfl ?_
  refine j_bipush hx dX1_init_13 rfl ?_
  refine j_newA hx (zB_K hB2) (kd := 2) (t := 48) (N := 12) rfl ka_int rfl (fun _ _ h => h) (a := (12, .inl (fun _ => zI 0))) (fun _ => rfl) (fun _ => rfl) rfl (by decide) (by decide) ⟨by decide, by decide⟩ dX1_init_15 (fun q3 hq3 => ?_)
  refine p22_1 hx (zGK_push (zB_K hB2) hq3 ar_48_12) (gT_put hq3 (zB_a hB2) (by decide)) kf_RX1_15 rfl rfl dX1_init_17 ?_
  refine j_ren (P := fun G9 s9 => zB G s0 a 2 [(1, 48, 0), (0, 47, 0)] G9 s9) (zB_arr hB2 rw_2 (by decide) hq3 ar_48_12) (fun G4 s4 hB4 => ?_)
  refine j_pub hB4 (by decide +kernel) cl_2 ?_
  exact j_vret hx hq rfl (by decide) (by decide) dX1_init_20 ⟨rfl, zPub_OK hB4 (by decide +kernel) cl_2, pT_eq, zPub_Y hB4, zPub_c hB4 (by decide)⟩

theorem lk_RX3_13 : LkIN RX3 13 RX11 yX0_init cX0_init 1 0 := ⟨km_RX3_13, ki_yX0_init, kn_RX0, kc_yX0_init, rfl, by decide +kernel, by decide +kernel, by decide +kernel⟩
set_option maxHeartbeats 4000000 in
set_option maxRecDepth 20000 in
theorem c_X3_init {E : zE} {l : Launch} (hst : l.stackTraces = false) (a : Nat) (b1 : Nat) : Con E l yX3_init cX3_init 2 none { frames := 3, cells := 20, slots := 481, locals := 60 } (fun G s vs => vs = [.ref a, .ref b1] ∧ zOK G s ∧ gT G a = 24 ∧ (∀ k, s a k = 0) ∧ gT G b1 = 9) (fun G s _ => pV (fun G2 s2 => zOK G2 s2 ∧ gT G2 a = 4 ∧ zYa a G s G2 s2 ∧ zNc a G G2)) := by
  refine Con.mk hst (by decide) (fun G s vs h => by rw [h.1]; exact Nat.le_of_ble_eq_true rfl) ?_
  rintro X G s0 vs ⟨rfl, hO, ha, hz, hb1⟩ rfl hx hq
  show JJ X E 2 G s0 0 0 [(0, .ref a), (1, .ref b1)] 0 []
  have hB0 := zB_0 (t := 4) hO ha hz (by decide)
  refine j_aload_n hx 0 dX3_init_0 rfl ?_
  refine j_objI hx km_RX3_5 ⟨by decide, by decide⟩ dX3_init_1 ?_
  refine j_aload_n hx 0 dX3_init_4 rfl ?_
  skip
  refine j_newO hx (zB_K hB0) (t := 21) inX0 tyX0_ok kl_RX3_11 kt_RX0 kn_RX0 rfl hf_1 he_1 ⟨by decide, by decide⟩ dX3_init_5 (fun q1 hq1 => ?_)
  refine j_dup hx dX3_init_8 rfl ?_
  refine j_callIN hx (c_X0_init hst q1) lk_RX3_13 [] ⟨rfl, (zB_new hB0 hq1 ar_21_0).1, (zB_new hB0 hq1 ar_21_0).2.1, (zB_new hB0 hq1 ar_21_0).2.2⟩ rfl rfl ⟨by decide, by decide⟩ ⟨by decide, by decide⟩ (k2 := 15) (n2 := 443) rfl rfl (Nat.le_of_ble_eq_true rfl) dX3_init_9 (kV (fun G2 s2 hP2 => ?_))
  have hB2 := zB_obj hB0 hq1 hP2.1 hP2.2.1 hP2.2.2.1 hP2.2.2.2 (by decide)
  refine p24_1 hx (zB_K hB2) (zB_a hB2) kf_RX3_14 rfl rfl dX3_init_12 ?_
  refine j_ren (P := fun G9 s9 => zB G s0 a 4 [(1, 1, 0)] G9 s9) (zB_ref hB2 rw_4 (by decide) (by decide) hP2.2.1) (fun G3 s3 hB3 => ?_)
  refine j_aload_n hx 0 dX3_init_15 rfl ?_
  refine j_iconst hx dX3_init_16 ?_
  refine j_newA hx (zB_K hB3) (kd := 2) (t := 44) (N := 3) rfl ka_int rfl (fun _ _ h => h) (a := (3, .inl (fun _ => zI 0))) (fun _ => rfl) (fun _ => rfl) rfl (by decide) (by decide) ⟨by decide, by decide⟩ dX3_init_17 (fun q4 hq4 => ?_)
  refine p24_2 hx (zGK_push (zB_K hB3) hq4 ar_44_3) (gT_put hq4 (zB_a hB3) (by decide)) kf_RX3_18 rfl rfl dX3_init_19 ?_
  refine j_ren (P := fun G9 s9 => zB G s0 a 4 [(2, 44, 0), (1, 1, 0)] G9 s9) (zB_arr hB3 rw_4 (by decide) hq4 ar_44_3) (fun G5 s5 hB5 => ?_)
  refine j_aload_n hx 0 dX3_init_22 rfl ?_
  refine j_bipush hx dX3_init_23 rfl ?_
  refine j_newQ hx (zB_K hB5) (kd := 6) (t := 49) (N := 6) kl_RX3_22 hx.2.2.2.2.2.1.2.2.2.2.2.2.2.1 rfl (fun _ => rfl) rfl (by decide) ⟨by decide, by decide⟩ dX3_init_25 (fun q6 hq6 => ?_)
  refine p24_3 hx (zGK_push (zB_K hB5) hq6 ar_49_6) (gT_put hq6 (zB_a hB5) (by decide)) kf_RX3_24 rfl rfl dX3_init_28 ?_
  refine j_ren (P := fun G9 s9 => zB G s0 a 4 [(3, 49, 0), (2, 44, 0), (1, 1, 0)] G9 s9) (zB_arr hB5 rw_4 (by decide) hq6 ar_49_6) (fun G7 s7 hB7 => ?_)
  refine j_aload_n hx 0 dX3_init_31 rfl ?_
  refine j_bipush hx dX3_init_32 rfl ?_
  refine j_newA hx (zB_K hB7) (kd := 2) (t := 50) (N := 21) rfl ka_int rfl (fun _ _ h => h) (a := (21, .inl (fun _ => zI 0))) (fun _ => rfl) (fun _ => rfl) rfl (by decide) (by decide) ⟨by decide, by decide⟩ dX3_init_34 (fun q8 hq8 => ?_)
  refine p24_4 hx (zGK_push (zB_K hB7) hq8 ar_50_21) (gT_put hq8 (zB_a hB7) (by decide)) kf_RX3_28 rfl rfl dX3_init_36 ?_
  refine j_ren (P := fun G9 s9 => zB G s0 a 4 [(4, 50, 0), (3, 49, 0), (2, 44, 0), (1, 1, 0)] G9 s9) (zB_arr hB7 rw_4 (by decide) hq8 ar_50_21) (fun G9 s9 hB9 => ?_)
  refine j_aload_n hx 0 dX3_init_39 rfl ?_
  refine j_iconst hx dX3_init_40 ?_
  refine j_newA hx (zB_K hB9) (kd := 2) (t := 51) (N := 5) rfl ka_int rfl (fun _ _ h => h) (a := (5, .inl (fun _ => zI 0))) (fun _ => rfl) (fun _ => rfl) rfl (by decide) (by decide) ⟨by decide, by decide⟩ dX3_init_41 (fun q10 hq10 => ?_)
  refine p24_5 hx (zGK_push (zB_K hB9) hq10 ar_51_5) (gT_put hq10 (zB_a hB9) (by decide)) kf_RX3_31 rfl rfl dX3_init_43 ?_
  refine j_ren (P := fun G9 s9 => zB G s0 a 4 [(5, 51, 0), (4, 50, 0), (3, 49, 0), (2, 44, 0), (1, 1, 0)] G9 s9) (zB_arr hB9 rw_4 (by decide) hq10 ar_51_5) (fun G11 s11 hB11 => ?_)
  refine j_aload_n hx 0 dX3_init_46 rfl ?_
  refine j_iconst hx dX3_init_47 ?_
  refine j_newA hx (zB_K hB11) (kd := 2) (t := 52) (N := 3) rfl ka_int rfl (fun _ _ h => h) (a := (3, .inl (fun _ => zI 0))) (fun _ => rfl) (fun _ => rfl) rfl (by decide) (by decide) ⟨by decide, by decide⟩ dX3_init_48 (fun q12 hq12 => ?_)
  refine p24_6 hx (zGK_push (zB_K hB11) hq12 ar_52_3) (gT_put hq12 (zB_a hB11) (by decide)) kf_RX3_34 rfl rfl dX3_init_50 ?_
  refine j_ren (P := fun G9 s9 => zB G s0 a 4 [(6, 52, 0), (5, 51, 0), (4, 50, 0), (3, 49, 0), (2, 44, 0), (1, 1, 0)] G9 s9) (zB_arr hB11 rw_4 (by decide) hq12 ar_52_3) (fun G13 s13 hB13 => ?_)
  refine j_aload_n hx 0 dX3_init_53 rfl ?_
  refine j_iconst hx dX3_init_54 ?_
  refine p24_11 hx (zB_K hB13) (zB_a hB13) kf_RX3_37 dX3_init_55 ?_
  refine j_ren (P := fun G9 s9 => zB G s0 a 4 [(11, 0, (-1)), (6, 52, 0), (5, 51, 0), (4, 50, 0), (3, 49, 0), (2, 44, 0), (1, 1, 0)] G9 s9) (zB_int hB13 rw_4 (by decide)) (fun G14 s14 hB14 => ?_)
  refine j_aload_n hx 0 dX3_init_58 rfl ?_
  refine j_aload_n hx 1 dX3_init_59 rfl ?_
  refine p24_0 hx (zB_K hB14) (zB_a hB14) kf_RX3_41 rfl rfl dX3_init_60 ?_
  refine j_ren (P := fun G9 s9 => zB G s0 a 4 [(0, 9, 0), (11, 0, (-1)), (6, 52, 0), (5, 51, 0), (4, 50, 0), (3, 49, 0), (2, 44, 0), (1, 1, 0)] G9 s9) (zB_ref hB14 rw_4 (by decide) (by decide) (zB_old hB14 hb1 (by decide) (zne ha hb1 (by decide)))) (fun G15 s15 hB15 => ?_)
  refine j_pub hB15 (by decide +kernel) cl_4 ?_
  exact j_vret hx hq rfl (by decide) (by decide) dX3_init_63 ⟨rfl, zPub_OK hB15 (by decide +kernel) cl_4, pT_eq, zPub_Y hB15, zPub_c hB15 (by decide)⟩

theorem lk_RX2_24 : LkI RX2 24 yX3_init cX3_init 2 1 := ⟨km_RX2_24, ki_yX3_init, kn_RX3, kc_yX3_init, rfl, by decide +kernel, by decide +kernel, by decide +kernel⟩
set_option maxHeartbeats 4000000 in
set_option maxRecDepth 20000 in
theorem c_X2_init {E : zE} {l : Launch} (hst : l.stackTraces = false) (a : Nat) (b1 : Nat) : Con E l yX2_init cX2_init 2 none { frames := 4, cells := 24, slots := 28599, locals := 81 } (fun G s vs => vs = [.ref a, .ref b1] ∧ zOK G s ∧ gT G a = 23 ∧ (∀ k, s a k = 0) ∧ gT G b1 = 9) (fun G s _ => pV (fun G2 s2 => zOK G2 s2 ∧ gT G2 a = 3 ∧ zYa a G s G2 s2 ∧ zNc a G G2)) := by
  refine Con.mk hst (by decide) (fun G s vs h => by rw [h.1]; exact Nat.le_of_ble_eq_true rfl) ?_
  rintro X G s0 vs ⟨rfl, hO, ha, hz, hb1⟩ rfl hx hq
  show JJ X E 2 G s0 0 0 [(0, .ref a), (1, .ref b1)] 0 []
  have hB0 := zB_0 (t := 3) hO ha hz (by decide)
  refine j_aload_n hx 0 dX2_init_0 rfl ?_
  refine j_objI hx km_RX2_3 ⟨by decide, by decide⟩ dX2_init_1 ?_
  refine j_aload_n hx 0 dX2_init_4 rfl ?_
  refine j_sipush hx dX2_init_5 rfl ?_
  refine j_newA hx (zB_K hB0) (kd := 3) (t := 53) (N := 21007) rfl ka_long rfl (fun _ _ h => h) (a := (21007, .inr (.inl (fun _ => zL 0)))) (fun _ => rfl) (fun _ => rfl) rfl (by decide) (by decide) ⟨by decide, by decide⟩ dX2_init_8 (fun q1 hq1 => ?_)
  refine p23_1 hx (zGK_push (zB_K hB0) hq1 ar_53_21007) (gT_put hq1 (zB_a hB0) (by decide)) kf_RX2_11 rfl rfl dX2_init_10 ?_
  refine j_ren (P := fun G9 s9 => zB G s0 a 3 [(1, 53, 0)] G9 s9) (zB_arr hB0 rw_3 (by decide) hq1 ar_53_21007) (fun G2 s2 hB2 => ?_)
  refine j_aload_n hx 0 dX2_init_13 rfl ?_
  refine j_sipush hx dX2_init_14 rfl ?_
  refine j_newA hx (zB_K hB2) (kd := 2) (t := 54) (N := 4096) rfl ka_int rfl (fun _ _ h => h) (a := (4096, .inl (fun _ => zI 0))) (fun _ => rfl) (fun _ => rfl) rfl (by decide) (by decide) ⟨by decide, by decide⟩ dX2_init_17 (fun q3 hq3 => ?_)
  refine p23_2 hx (zGK_push (zB_K hB2) hq3 ar_54_4096) (gT_put hq3 (zB_a hB2) (by decide)) kf_RX2_15 rfl rfl dX2_init_19 ?_
  refine j_ren (P := fun G9 s9 => zB G s0 a 3 [(2, 54, 0), (1, 53, 0)] G9 s9) (zB_arr hB2 rw_3 (by decide) hq3 ar_54_4096) (fun G4 s4 hB4 => ?_)
  refine j_aload_n hx 0 dX2_init_22 rfl ?_
  refine j_sipush hx dX2_init_23 rfl ?_
  refine j_newA hx (zB_K hB4) (kd := 2) (t := 55) (N := 3001) rfl ka_int rfl (fun _ _ h => h) (a := (3001, .inl (fun _ => zI 0))) (fun _ => rfl) (fun _ => rfl) rfl (by decide) (by decide) ⟨by decide, by decide⟩ dX2_init_26 (fun q5 hq5 => ?_)
  refine p23_3 hx (zGK_push (zB_K hB4) hq5 ar_55_3001) (gT_put hq5 (zB_a hB4) (by decide)) kf_RX2_19 rfl rfl dX2_init_28 ?_
  refine j_ren (P := fun G9 s9 => zB G s0 a 3 [(3, 55, 0), (2, 54, 0), (1, 53, 0)] G9 s9) (zB_arr hB4 rw_3 (by decide) hq5 ar_55_3001) (fun G6 s6 hB6 => ?_)
  refine j_aload_n hx 0 dX2_init_31 rfl ?_
  skip
  refine j_newO hx (zB_K hB6) (t := 24) inX3 tyX3_ok kl_RX2_22 kt_RX3 kn_RX3 rfl hf_4 he_4 ⟨by decide, by decide⟩ dX2_init_32 (fun q7 hq7 => ?_)
  refine j_dup hx dX2_init_35 rfl ?_
  refine j_aload_n hx 1 dX2_init_36 rfl ?_
  refine j_callI hx (c_X3_init hst q7 b1) lk_RX2_24 [.ref b1] ⟨rfl, (zB_new hB6 hq7 ar_24_0).1, (zB_new hB6 hq7 ar_24_0).2.1, (zB_new hB6 hq7 ar_24_0).2.2, (gT_put hq7 (zB_old hB6 hb1 (by decide) (zne ha hb1 (by decide))) (by decide))⟩ rfl rfl ⟨by decide, by decide⟩ ⟨by decide, by decide⟩ (k2 := 24) (n2 := 28599) rfl rfl (Nat.le_of_ble_eq_true rfl) dX2_init_37 (kV (fun G8 s8 hP8 => ?_))
  have hB8 := zB_obj hB6 hq7 hP8.1 hP8.2.1 hP8.2.2.1 hP8.2.2.2 (by decide)
  refine p23_0 hx (zB_K hB8) (zB_a hB8) kf_RX2_27 rfl rfl dX2_init_40 ?_
  refine j_ren (P := fun G9 s9 => zB G s0 a 3 [(0, 4, 0), (3, 55, 0), (2, 54, 0), (1, 53, 0)] G9 s9) (zB_ref hB8 rw_3 (by decide) (by decide) hP8.2.1) (fun G9 s9 hB9 => ?_)
  refine j_pub hB9 (by decide +kernel) cl_3 ?_
  exact j_vret hx hq rfl (by decide) (by decide) dX2_init_43 ⟨rfl, zPub_OK hB9 (by decide +kernel) cl_3, pT_eq, zPub_Y hB9, zPub_c hB9 (by decide)⟩

theorem lk_RX10_21 : LkIN RX10 21 RX11 yX0_init cX0_init 1 0 := ⟨km_RX10_21, ki_yX0_init, kn_RX0, kc_yX0_init, rfl, by decide +kernel, by decide +kernel, by decide +kernel⟩
set_option maxHeartbeats 4000000 in
set_option maxRecDepth 20000 in
theorem c_X10_init {E : zE} {l : Launch} (hst : l.stackTraces = false) (a : Nat) (b1 : Nat) : Con E l yX10_init cX10_init 3 none { frames := 3, cells := 196, slots := 5772, locals := 60 } (fun G s vs => vs = [.ref a, .ref b1] ∧ zOK G s ∧ gT G a = 31 ∧ (∀ k, s a k = 0) ∧ gT G b1 = 9) (fun G s _ => pV (fun G2 s2 => zOK G2 s2 ∧ gT G2 a = 11 ∧ zYa a G s G2 s2 ∧ zNc a G G2)) := by
  refine Con.mk hst (by decide) (fun G s vs h => by rw [h.1]; exact Nat.le_of_ble_eq_true rfl) ?_
  rintro X G s0 vs ⟨rfl, hO, ha, hz, hb1⟩ rfl hx hq
  show JJ X E 3 G s0 0 0 [(2, .int (zI 13)), (0, .ref a), (1, .ref b1)] 0 []
  have hB0 := zB_0 (t := 11) hO ha hz (by decide)
  refine j_aload_n hx 0 dX10_init_0 rfl ?_
  refine j_objI hx km_RX10_3 ⟨by decide, by decide⟩ dX10_init_1 ?_
  refine j_aload_n hx 0 dX10_init_4 rfl ?_
  refine j_bipush hx dX10_init_5 rfl ?_
  refine j_newQ hx (zB_K hB0) (kd := 7) (t := 56) (N := 13) kl_RX10_11 hx.2.2.2.2.2.1.2.2.2.2.2.2.2.2.1 rfl (fun _ => rfl) rfl (by decide) ⟨by decide, by decide⟩ dX10_init_7 (fun q1 hq1 => ?_)
  refine p31_1 hx (zGK_push (zB_K hB0) hq1 ar_56_13) (gT_put hq1 (zB_a hB0) (by decide)) kf_RX10_13 rfl rfl dX10_init_10 ?_
  refine j_ren (P := fun G9 s9 => zB G s0 a 11 [(1, 56, 0)] G9 s9) (zB_arr hB0 rw_11 (by decide) hq1 ar_56_13) (fun G2 s2 hB2 => ?_)
  refine j_aload_n hx 0 dX10_init_13 rfl ?_
  refine j_aload_n hx 1 dX10_init_14 rfl ?_
  refine p31_0 hx (zB_K hB2) (zB_a hB2) kf_RX10_17 rfl rfl dX10_init_15 ?_
  refine j_ren (P := fun G9 s9 => zB G s0 a 11 [(0, 9, 0), (1, 56, 0)] G9 s9) (zB_ref hB2 rw_11 (by decide) (by decide) (zB_old hB2 hb1 (by decide) (zne ha hb1 (by decide)))) (fun G3 s3 hB3 => ?_)
  refine j_iconst hx dX10_init_18 ?_
  refine j_istore_n hx [(2, .int (zI 0)), (0, .ref a), (1, .ref b1)] dX10_init_19 (by decide) rfl ?_
  refine j_iload_n hx 0 dX10_init_20 rfl ?_
  refine j_aload_n hx 1 dX10_init_21 rfl ?_
  obtain ⟨t4, et4, gt4⟩ := zB_get hB3 (k := 1) (u := 56) (by decide) (by decide)
  refine j_getf hx (zB_K hB3) (zB_a hB3) (by decide) rfl rfl rfl rfl inX10 1 (by decide) kf_RX10_13 rfl dX10_init_22 (v := .ref t4) (by rw [et4]; exact zvr rfl) ?_
  refine j_alen hx (zB_K hB3) gt4 (by decide) (by decide) (zlen (zB_K hB3) gt4 (n := 13) rfl rfl) dX10_init_25 ?_
  refine j_icmp_ge hx 48 dX10_init_26 rfl ⟨by decide, by decide⟩ ⟨by decide, by decide⟩ (fun h => absurd h (by decide)) (fun h => ?_)
  refine j_aload_n hx 1 dX10_init_29 rfl ?_
  obtain ⟨t5, et5, gt5⟩ := zB_get hB3 (k := 1) (u := 56) (by decide) (by decide)
  refine j_getf hx (zB_K hB3) (zB_a hB3) (by decide) rfl rfl rfl rfl inX10 1 (by decide) kf_RX10_13 rfl dX10_init_30 (v := .ref t5) (by rw [et5]; exact zvr rfl) ?_
  refine j_iload_n hx 0 dX10_init_33 rfl ?_
  skip
  refine j_newO hx (zB_K hB3) (t := 21) inX0 tyX0_ok kl_RX10_11 kt_RX0 kn_RX0 rfl hf_1 he_1 ⟨by decide, by decide⟩ dX10_init_34 (fun q6 hq6 => ?_)
  refine j_dup hx dX10_init_37 rfl ?_
  refine j_callIN hx (c_X0_init hst q6) lk_RX10_21 [] ⟨rfl, (zB_new hB3 hq6 ar_21_0).1, (zB_new hB3 hq6 ar_21_0).2.1, (zB_new hB3 hq6 ar_21_0).2.2⟩ rfl rfl ⟨by decide, by decide⟩ ⟨by decide, by decide⟩ (k2 := 16) (n2 := 456) rfl rfl (Nat.le_of_ble_eq_true rfl) dX10_init_38 (kV (fun G7 s7 hP7 => ?_))
  have hB7 := zB_obj hB3 hq6 hP7.1 hP7.2.1 hP7.2.2.1 hP7.2.2.2 (by decide)
  have gp7 := zObj_T hq6 hP7.2.2.1 gt5 (by decide)
  refine j_aast7 hx (zB_K hB7) gp7 (by decide) rfl hP7.2.1 (by decide) rfl rfl rfl rfl (zlen (zB_K hB7) gp7 (n := 13) rfl rfl) (by decide) (by decide) dX10_init_41 ?_
  refine j_ren (P := fun G9 s9 => zB G s0 a 11 [(0, 9, 0), (1, 56, 0)] G9 s9) (zB_ast (u := 1) hB7 gp7 (zdyn hP7.2.1)) (fun G8 s8 hB8 => ?_)
  refine j_iinc hx 0 [(2, .int (zI 1)), (0, .ref a), (1, .ref b1)] dX10_init_42 rfl (by omega) (by decide) rfl ?_
  refine j_goto hx 20 dX10_init_45 rfl ?_
  refine j_iload_n hx 0 dX10_init_20 rfl ?_
  refine j_aload_n hx 1 dX10_init_21 rfl ?_
  obtain ⟨t9, et9, gt9⟩ := zB_get hB8 (k := 1) (u := 56) (by decide) (by decide)
  refine j_getf hx (zB_K hB8) (zB_a hB8) (by decide) rfl rfl rfl rfl inX10 1 (by decide) kf_RX10_13 rfl dX10_init_22 (v := .ref t9) (by rw [et9]; exact zvr rfl) ?_
  refine j_alen hx (zB_K hB8) gt9 (by decide) (by decide) (zlen (zB_K hB8) gt9 (n := 13) rfl rfl) dX10_init_25 ?_
  refine j_icmp_ge hx 48 dX10_init_26 rfl ⟨by decide, by decide⟩ ⟨by decide, by decide⟩ (fun h => absurd h (by decide)) (fun h => ?_)
  refine j_aload_n hx 1 dX10_init_29 rfl ?_
  obtain ⟨t10, et10, gt10⟩ := zB_get hB8 (k := 1) (u := 56) (by decide) (by decide)
  refine j_getf hx (zB_K hB8) (zB_a hB8) (by decide) rfl rfl rfl rfl inX10 1 (by decide) kf_RX10_13 rfl dX10_init_30 (v := .ref t10) (by rw [et10]; exact zvr rfl) ?_
  refine j_iload_n hx 0 dX10_init_33 rfl ?_
  skip
  refine j_newO hx (zB_K hB8) (t := 21) inX0 tyX0_ok kl_RX10_11 kt_RX0 kn_RX0 rfl hf_1 he_1 ⟨by decide, by decide⟩ dX10_init_34 (fun q11 hq11 => ?_)
  refine j_dup hx dX10_init_37 rfl ?_
  refine j_callIN hx (c_X0_init hst q11) lk_RX10_21 [] ⟨rfl, (zB_new hB8 hq11 ar_21_0).1, (zB_new hB8 hq11 ar_21_0).2.1, (zB_new hB8 hq11 ar_21_0).2.2⟩ rfl rfl ⟨by decide, by decide⟩ ⟨by decide, by decide⟩ (k2 := 31) (n2 := 899) rfl rfl (Nat.le_of_ble_eq_true rfl) dX10_init_38 (kV (fun G12 s12 hP12 => ?_))
  have hB12 := zB_obj hB8 hq11 hP12.1 hP12.2.1 hP12.2.2.1 hP12.2.2.2 (by decide)
  have gp12 := zObj_T hq11 hP12.2.2.1 gt10 (by decide)
  refine j_aast7 hx (zB_K hB12) gp12 (by decide) rfl hP12.2.1 (by decide) rfl rfl rfl rfl (zlen (zB_K hB12) gp12 (n := 13) rfl rfl) (by decide) (by decide) dX10_init_41 ?_
  refine j_ren (P := fun G9 s9 => zB G s0 a 11 [(0, 9, 0), (1, 56, 0)] G9 s9) (zB_ast (u := 1) hB12 gp12 (zdyn hP12.2.1)) (fun G13 s13 hB13 => ?_)
  refine j_iinc hx 0 [(2, .int (zI 2)), (0, .ref a), (1, .ref b1)] dX10_init_42 rfl (by omega) (by decide) rfl ?_
  refine j_goto hx 20 dX10_init_45 rfl ?_
  refine j_iload_n hx 0 dX10_init_20 rfl ?_
  refine j_aload_n hx 1 dX10_init_21 rfl ?_
  obtain ⟨t14, et14, gt14⟩ := zB_get hB13 (k := 1) (u := 56) (by decide) (by decide)
  refine j_getf hx (zB_K hB13) (zB_a hB13) (by decide) rfl rfl rfl rfl inX10 1 (by decide) kf_RX10_13 rfl dX10_init_22 (v := .ref t14) (by rw [et14]; exact zvr rfl) ?_
  refine j_alen hx (zB_K hB13) gt14 (by decide) (by decide) (zlen (zB_K hB13) gt14 (n := 13) rfl rfl) dX10_init_25 ?_
  refine j_icmp_ge hx 48 dX10_init_26 rfl ⟨by decide, by decide⟩ ⟨by decide, by decide⟩ (fun h => absurd h (by decide)) (fun h => ?_)
  refine j_aload_n hx 1 dX10_init_29 rfl ?_
  obtain ⟨t15, et15, gt15⟩ := zB_get hB13 (k := 1) (u := 56) (by decide) (by decide)
  refine j_getf hx (zB_K hB13) (zB_a hB13) (by decide) rfl rfl rfl rfl inX10 1 (by decide) kf_RX10_13 rfl dX10_init_30 (v := .ref t15) (by rw [et15]; exact zvr rfl) ?_
  refine j_iload_n hx 0 dX10_init_33 rfl ?_
  skip
  refine j_newO hx (zB_K hB13) (t := 21) inX0 tyX0_ok kl_RX10_11 kt_RX0 kn_RX0 rfl hf_1 he_1 ⟨by decide, by decide⟩ dX10_init_34 (fun q16 hq16 => ?_)
  refine j_dup hx dX10_init_37 rfl ?_
  refine j_callIN hx (c_X0_init hst q16) lk_RX10_21 [] ⟨rfl, (zB_new hB13 hq16 ar_21_0).1, (zB_new hB13 hq16 ar_21_0).2.1, (zB_new hB13 hq16 ar_21_0).2.2⟩ rfl rfl ⟨by decide, by decide⟩ ⟨by decide, by decide⟩ (k2 := 46) (n2 := 1342) rfl rfl (Nat.le_of_ble_eq_true rfl) dX10_init_38 (kV (fun G17 s17 hP17 => ?_))
  have hB17 := zB_obj hB13 hq16 hP17.1 hP17.2.1 hP17.2.2.1 hP17.2.2.2 (by decide)
  have gp17 := zObj_T hq16 hP17.2.2.1 gt15 (by decide)
  refine j_aast7 hx (zB_K hB17) gp17 (by decide) rfl hP17.2.1 (by decide) rfl rfl rfl rfl (zlen (zB_K hB17) gp17 (n := 13) rfl rfl) (by decide) (by decide) dX10_init_41 ?_
  refine j_ren (P := fun G9 s9 => zB G s0 a 11 [(0, 9, 0), (1, 56, 0)] G9 s9) (zB_ast (u := 1) hB17 gp17 (zdyn hP17.2.1)) (fun G18 s18 hB18 => ?_)
  refine j_iinc hx 0 [(2, .int (zI 3)), (0, .ref a), (1, .ref b1)] dX10_init_42 rfl (by omega) (by decide) rfl ?_
  refine j_goto hx 20 dX10_init_45 rfl ?_
  refine j_iload_n hx 0 dX10_init_20 rfl ?_
  refine j_aload_n hx 1 dX10_init_21 rfl ?_
  obtain ⟨t19, et19, gt19⟩ := zB_get hB18 (k := 1) (u := 56) (by decide) (by decide)
  refine j_getf hx (zB_K hB18) (zB_a hB18) (by decide) rfl rfl rfl rfl inX10 1 (by decide) kf_RX10_13 rfl dX10_init_22 (v := .ref t19) (by rw [et19]; exact zvr rfl) ?_
  refine j_alen hx (zB_K hB18) gt19 (by decide) (by decide) (zlen (zB_K hB18) gt19 (n := 13) rfl rfl) dX10_init_25 ?_
  refine j_icmp_ge hx 48 dX10_init_26 rfl ⟨by decide, by decide⟩ ⟨by decide, by decide⟩ (fun h => absurd h (by decide)) (fun h => ?_)
  refine j_aload_n hx 1 dX10_init_29 rfl ?_
  obtain ⟨t20, et20, gt20⟩ := zB_get hB18 (k := 1) (u := 56) (by decide) (by decide)
  refine j_getf hx (zB_K hB18) (zB_a hB18) (by decide) rfl rfl rfl rfl inX10 1 (by decide) kf_RX10_13 rfl dX10_init_30 (v := .ref t20) (by rw [et20]; exact zvr rfl) ?_
  refine j_iload_n hx 0 dX10_init_33 rfl ?_
  skip
  refine j_newO hx (zB_K hB18) (t := 21) inX0 tyX0_ok kl_RX10_11 kt_RX0 kn_RX0 rfl hf_1 he_1 ⟨by decide, by decide⟩ dX10_init_34 (fun q21 hq21 => ?_)
  refine j_dup hx dX10_init_37 rfl ?_
  refine j_callIN hx (c_X0_init hst q21) lk_RX10_21 [] ⟨rfl, (zB_new hB18 hq21 ar_21_0).1, (zB_new hB18 hq21 ar_21_0).2.1, (zB_new hB18 hq21 ar_21_0).2.2⟩ rfl rfl ⟨by decide, by decide⟩ ⟨by decide, by decide⟩ (k2 := 61) (n2 := 1785) rfl rfl (Nat.le_of_ble_eq_true rfl) dX10_init_38 (kV (fun G22 s22 hP22 => ?_))
  have hB22 := zB_obj hB18 hq21 hP22.1 hP22.2.1 hP22.2.2.1 hP22.2.2.2 (by decide)
  have gp22 := zObj_T hq21 hP22.2.2.1 gt20 (by decide)
  refine j_aast7 hx (zB_K hB22) gp22 (by decide) rfl hP22.2.1 (by decide) rfl rfl rfl rfl (zlen (zB_K hB22) gp22 (n := 13) rfl rfl) (by decide) (by decide) dX10_init_41 ?_
  refine j_ren (P := fun G9 s9 => zB G s0 a 11 [(0, 9, 0), (1, 56, 0)] G9 s9) (zB_ast (u := 1) hB22 gp22 (zdyn hP22.2.1)) (fun G23 s23 hB23 => ?_)
  refine j_iinc hx 0 [(2, .int (zI 4)), (0, .ref a), (1, .ref b1)] dX10_init_42 rfl (by omega) (by decide) rfl ?_
  refine j_goto hx 20 dX10_init_45 rfl ?_
  refine j_iload_n hx 0 dX10_init_20 rfl ?_
  refine j_aload_n hx 1 dX10_init_21 rfl ?_
  obtain ⟨t24, et24, gt24⟩ := zB_get hB23 (k := 1) (u := 56) (by decide) (by decide)
  refine j_getf hx (zB_K hB23) (zB_a hB23) (by decide) rfl rfl rfl rfl inX10 1 (by decide) kf_RX10_13 rfl dX10_init_22 (v := .ref t24) (by rw [et24]; exact zvr rfl) ?_
  refine j_alen hx (zB_K hB23) gt24 (by decide) (by decide) (zlen (zB_K hB23) gt24 (n := 13) rfl rfl) dX10_init_25 ?_
  refine j_icmp_ge hx 48 dX10_init_26 rfl ⟨by decide, by decide⟩ ⟨by decide, by decide⟩ (fun h => absurd h (by decide)) (fun h => ?_)
  refine j_aload_n hx 1 dX10_init_29 rfl ?_
  obtain ⟨t25, et25, gt25⟩ := zB_get hB23 (k := 1) (u := 56) (by decide) (by decide)
  refine j_getf hx (zB_K hB23) (zB_a hB23) (by decide) rfl rfl rfl rfl inX10 1 (by decide) kf_RX10_13 rfl dX10_init_30 (v := .ref t25) (by rw [et25]; exact zvr rfl) ?_
  refine j_iload_n hx 0 dX10_init_33 rfl ?_
  skip
  refine j_newO hx (zB_K hB23) (t := 21) inX0 tyX0_ok kl_RX10_11 kt_RX0 kn_RX0 rfl hf_1 he_1 ⟨by decide, by decide⟩ dX10_init_34 (fun q26 hq26 => ?_)
  refine j_dup hx dX10_init_37 rfl ?_
  refine j_callIN hx (c_X0_init hst q26) lk_RX10_21 [] ⟨rfl, (zB_new hB23 hq26 ar_21_0).1, (zB_new hB23 hq26 ar_21_0).2.1, (zB_new hB23 hq26 ar_21_0).2.2⟩ rfl rfl ⟨by decide, by decide⟩ ⟨by decide, by decide⟩ (k2 := 76) (n2 := 2228) rfl rfl (Nat.le_of_ble_eq_true rfl) dX10_init_38 (kV (fun G27 s27 hP27 => ?_))
  have hB27 := zB_obj hB23 hq26 hP27.1 hP27.2.1 hP27.2.2.1 hP27.2.2.2 (by decide)
  have gp27 := zObj_T hq26 hP27.2.2.1 gt25 (by decide)
  refine j_aast7 hx (zB_K hB27) gp27 (by decide) rfl hP27.2.1 (by decide) rfl rfl rfl rfl (zlen (zB_K hB27) gp27 (n := 13) rfl rfl) (by decide) (by decide) dX10_init_41 ?_
  refine j_ren (P := fun G9 s9 => zB G s0 a 11 [(0, 9, 0), (1, 56, 0)] G9 s9) (zB_ast (u := 1) hB27 gp27 (zdyn hP27.2.1)) (fun G28 s28 hB28 => ?_)
  refine j_iinc hx 0 [(2, .int (zI 5)), (0, .ref a), (1, .ref b1)] dX10_init_42 rfl (by omega) (by decide) rfl ?_
  refine j_goto hx 20 dX10_init_45 rfl ?_
  refine j_iload_n hx 0 dX10_init_20 rfl ?_
  refine j_aload_n hx 1 dX10_init_21 rfl ?_
  obtain ⟨t29, et29, gt29⟩ := zB_get hB28 (k := 1) (u := 56) (by decide) (by decide)
  refine j_getf hx (zB_K hB28) (zB_a hB28) (by decide) rfl rfl rfl rfl inX10 1 (by decide) kf_RX10_13 rfl dX10_init_22 (v := .ref t29) (by rw [et29]; exact zvr rfl) ?_
  refine j_alen hx (zB_K hB28) gt29 (by decide) (by decide) (zlen (zB_K hB28) gt29 (n := 13) rfl rfl) dX10_init_25 ?_
  refine j_icmp_ge hx 48 dX10_init_26 rfl ⟨by decide, by decide⟩ ⟨by decide, by decide⟩ (fun h => absurd h (by decide)) (fun h => ?_)
  refine j_aload_n hx 1 dX10_init_29 rfl ?_
  obtain ⟨t30, et30, gt30⟩ := zB_get hB28 (k := 1) (u := 56) (by decide) (by decide)
  refine j_getf hx (zB_K hB28) (zB_a hB28) (by decide) rfl rfl rfl rfl inX10 1 (by decide) kf_RX10_13 rfl dX10_init_30 (v := .ref t30) (by rw [et30]; exact zvr rfl) ?_
  refine j_iload_n hx 0 dX10_init_33 rfl ?_
  skip
  refine j_newO hx (zB_K hB28) (t := 21) inX0 tyX0_ok kl_RX10_11 kt_RX0 kn_RX0 rfl hf_1 he_1 ⟨by decide, by decide⟩ dX10_init_34 (fun q31 hq31 => ?_)
  refine j_dup hx dX10_init_37 rfl ?_
  refine j_callIN hx (c_X0_init hst q31) lk_RX10_21 [] ⟨rfl, (zB_new hB28 hq31 ar_21_0).1, (zB_new hB28 hq31 ar_21_0).2.1, (zB_new hB28 hq31 ar_21_0).2.2⟩ rfl rfl ⟨by decide, by decide⟩ ⟨by decide, by decide⟩ (k2 := 91) (n2 := 2671) rfl rfl (Nat.le_of_ble_eq_true rfl) dX10_init_38 (kV (fun G32 s32 hP32 => ?_))
  have hB32 := zB_obj hB28 hq31 hP32.1 hP32.2.1 hP32.2.2.1 hP32.2.2.2 (by decide)
  have gp32 := zObj_T hq31 hP32.2.2.1 gt30 (by decide)
  refine j_aast7 hx (zB_K hB32) gp32 (by decide) rfl hP32.2.1 (by decide) rfl rfl rfl rfl (zlen (zB_K hB32) gp32 (n := 13) rfl rfl) (by decide) (by decide) dX10_init_41 ?_
  refine j_ren (P := fun G9 s9 => zB G s0 a 11 [(0, 9, 0), (1, 56, 0)] G9 s9) (zB_ast (u := 1) hB32 gp32 (zdyn hP32.2.1)) (fun G33 s33 hB33 => ?_)
  refine j_iinc hx 0 [(2, .int (zI 6)), (0, .ref a), (1, .ref b1)] dX10_init_42 rfl (by omega) (by decide) rfl ?_
  refine j_goto hx 20 dX10_init_45 rfl ?_
  refine j_iload_n hx 0 dX10_init_20 rfl ?_
  refine j_aload_n hx 1 dX10_init_21 rfl ?_
  obtain ⟨t34, et34, gt34⟩ := zB_get hB33 (k := 1) (u := 56) (by decide) (by decide)
  refine j_getf hx (zB_K hB33) (zB_a hB33) (by decide) rfl rfl rfl rfl inX10 1 (by decide) kf_RX10_13 rfl dX10_init_22 (v := .ref t34) (by rw [et34]; exact zvr rfl) ?_
  refine j_alen hx (zB_K hB33) gt34 (by decide) (by decide) (zlen (zB_K hB33) gt34 (n := 13) rfl rfl) dX10_init_25 ?_
  refine j_icmp_ge hx 48 dX10_init_26 rfl ⟨by decide, by decide⟩ ⟨by decide, by decide⟩ (fun h => absurd h (by decide)) (fun h => ?_)
  refine j_aload_n hx 1 dX10_init_29 rfl ?_
  obtain ⟨t35, et35, gt35⟩ := zB_get hB33 (k := 1) (u := 56) (by decide) (by decide)
  refine j_getf hx (zB_K hB33) (zB_a hB33) (by decide) rfl rfl rfl rfl inX10 1 (by decide) kf_RX10_13 rfl dX10_init_30 (v := .ref t35) (by rw [et35]; exact zvr rfl) ?_
  refine j_iload_n hx 0 dX10_init_33 rfl ?_
  skip
  refine j_newO hx (zB_K hB33) (t := 21) inX0 tyX0_ok kl_RX10_11 kt_RX0 kn_RX0 rfl hf_1 he_1 ⟨by decide, by decide⟩ dX10_init_34 (fun q36 hq36 => ?_)
  refine j_dup hx dX10_init_37 rfl ?_
  refine j_callIN hx (c_X0_init hst q36) lk_RX10_21 [] ⟨rfl, (zB_new hB33 hq36 ar_21_0).1, (zB_new hB33 hq36 ar_21_0).2.1, (zB_new hB33 hq36 ar_21_0).2.2⟩ rfl rfl ⟨by decide, by decide⟩ ⟨by decide, by decide⟩ (k2 := 106) (n2 := 3114) rfl rfl (Nat.le_of_ble_eq_true rfl) dX10_init_38 (kV (fun G37 s37 hP37 => ?_))
  have hB37 := zB_obj hB33 hq36 hP37.1 hP37.2.1 hP37.2.2.1 hP37.2.2.2 (by decide)
  have gp37 := zObj_T hq36 hP37.2.2.1 gt35 (by decide)
  refine j_aast7 hx (zB_K hB37) gp37 (by decide) rfl hP37.2.1 (by decide) rfl rfl rfl rfl (zlen (zB_K hB37) gp37 (n := 13) rfl rfl) (by decide) (by decide) dX10_init_41 ?_
  refine j_ren (P := fun G9 s9 => zB G s0 a 11 [(0, 9, 0), (1, 56, 0)] G9 s9) (zB_ast (u := 1) hB37 gp37 (zdyn hP37.2.1)) (fun G38 s38 hB38 => ?_)
  refine j_iinc hx 0 [(2, .int (zI 7)), (0, .ref a), (1, .ref b1)] dX10_init_42 rfl (by omega) (by decide) rfl ?_
  refine j_goto hx 20 dX10_init_45 rfl ?_
  refine j_iload_n hx 0 dX10_init_20 rfl ?_
  refine j_aload_n hx 1 dX10_init_21 rfl ?_
  obtain ⟨t39, et39, gt39⟩ := zB_get hB38 (k := 1) (u := 56) (by decide) (by decide)
  refine j_getf hx (zB_K hB38) (zB_a hB38) (by decide) rfl rfl rfl rfl inX10 1 (by decide) kf_RX10_13 rfl dX10_init_22 (v := .ref t39) (by rw [et39]; exact zvr rfl) ?_
  refine j_alen hx (zB_K hB38) gt39 (by decide) (by decide) (zlen (zB_K hB38) gt39 (n := 13) rfl rfl) dX10_init_25 ?_
  refine j_icmp_ge hx 48 dX10_init_26 rfl ⟨by decide, by decide⟩ ⟨by decide, by decide⟩ (fun h => absurd h (by decide)) (fun h => ?_)
  refine j_aload_n hx 1 dX10_init_29 rfl ?_
  obtain ⟨t40, et40, gt40⟩ := zB_get hB38 (k := 1) (u := 56) (by decide) (by decide)
  refine j_getf hx (zB_K hB38) (zB_a hB38) (by decide) rfl rfl rfl rfl inX10 1 (by decide) kf_RX10_13 rfl dX10_init_30 (v := .ref t40) (by rw [et40]; exact zvr rfl) ?_
  refine j_iload_n hx 0 dX10_init_33 rfl ?_
  skip
  refine j_newO hx (zB_K hB38) (t := 21) inX0 tyX0_ok kl_RX10_11 kt_RX0 kn_RX0 rfl hf_1 he_1 ⟨by decide, by decide⟩ dX10_init_34 (fun q41 hq41 => ?_)
  refine j_dup hx dX10_init_37 rfl ?_
  refine j_callIN hx (c_X0_init hst q41) lk_RX10_21 [] ⟨rfl, (zB_new hB38 hq41 ar_21_0).1, (zB_new hB38 hq41 ar_21_0).2.1, (zB_new hB38 hq41 ar_21_0).2.2⟩ rfl rfl ⟨by decide, by decide⟩ ⟨by decide, by decide⟩ (k2 := 121) (n2 := 3557) rfl rfl (Nat.le_of_ble_eq_true rfl) dX10_init_38 (kV (fun G42 s42 hP42 => ?_))
  have hB42 := zB_obj hB38 hq41 hP42.1 hP42.2.1 hP42.2.2.1 hP42.2.2.2 (by decide)
  have gp42 := zObj_T hq41 hP42.2.2.1 gt40 (by decide)
  refine j_aast7 hx (zB_K hB42) gp42 (by decide) rfl hP42.2.1 (by decide) rfl rfl rfl rfl (zlen (zB_K hB42) gp42 (n := 13) rfl rfl) (by decide) (by decide) dX10_init_41 ?_
  refine j_ren (P := fun G9 s9 => zB G s0 a 11 [(0, 9, 0), (1, 56, 0)] G9 s9) (zB_ast (u := 1) hB42 gp42 (zdyn hP42.2.1)) (fun G43 s43 hB43 => ?_)
  refine j_iinc hx 0 [(2, .int (zI 8)), (0, .ref a), (1, .ref b1)] dX10_init_42 rfl (by omega) (by decide) rfl ?_
  refine j_goto hx 20 dX10_init_45 rfl ?_
  refine j_iload_n hx 0 dX10_init_20 rfl ?_
  refine j_aload_n hx 1 dX10_init_21 rfl ?_
  obtain ⟨t44, et44, gt44⟩ := zB_get hB43 (k := 1) (u := 56) (by decide) (by decide)
  refine j_getf hx (zB_K hB43) (zB_a hB43) (by decide) rfl rfl rfl rfl inX10 1 (by decide) kf_RX10_13 rfl dX10_init_22 (v := .ref t44) (by rw [et44]; exact zvr rfl) ?_
  refine j_alen hx (zB_K hB43) gt44 (by decide) (by decide) (zlen (zB_K hB43) gt44 (n := 13) rfl rfl) dX10_init_25 ?_
  refine j_icmp_ge hx 48 dX10_init_26 rfl ⟨by decide, by decide⟩ ⟨by decide, by decide⟩ (fun h => absurd h (by decide)) (fun h => ?_)
  refine j_aload_n hx 1 dX10_init_29 rfl ?_
  obtain ⟨t45, et45, gt45⟩ := zB_get hB43 (k := 1) (u := 56) (by decide) (by decide)
  refine j_getf hx (zB_K hB43) (zB_a hB43) (by decide) rfl rfl rfl rfl inX10 1 (by decide) kf_RX10_13 rfl dX10_init_30 (v := .ref t45) (by rw [et45]; exact zvr rfl) ?_
  refine j_iload_n hx 0 dX10_init_33 rfl ?_
  skip
  refine j_newO hx (zB_K hB43) (t := 21) inX0 tyX0_ok kl_RX10_11 kt_RX0 kn_RX0 rfl hf_1 he_1 ⟨by decide, by decide⟩ dX10_init_34 (fun q46 hq46 => ?_)
  refine j_dup hx dX10_init_37 rfl ?_
  refine j_callIN hx (c_X0_init hst q46) lk_RX10_21 [] ⟨rfl, (zB_new hB43 hq46 ar_21_0).1, (zB_new hB43 hq46 ar_21_0).2.1, (zB_new hB43 hq46 ar_21_0).2.2⟩ rfl rfl ⟨by decide, by decide⟩ ⟨by decide, by decide⟩ (k2 := 136) (n2 := 4000) rfl rfl (Nat.le_of_ble_eq_true rfl) dX10_init_38 (kV (fun G47 s47 hP47 => ?_))
  have hB47 := zB_obj hB43 hq46 hP47.1 hP47.2.1 hP47.2.2.1 hP47.2.2.2 (by decide)
  have gp47 := zObj_T hq46 hP47.2.2.1 gt45 (by decide)
  refine j_aast7 hx (zB_K hB47) gp47 (by decide) rfl hP47.2.1 (by decide) rfl rfl rfl rfl (zlen (zB_K hB47) gp47 (n := 13) rfl rfl) (by decide) (by decide) dX10_init_41 ?_
  refine j_ren (P := fun G9 s9 => zB G s0 a 11 [(0, 9, 0), (1, 56, 0)] G9 s9) (zB_ast (u := 1) hB47 gp47 (zdyn hP47.2.1)) (fun G48 s48 hB48 => ?_)
  refine j_iinc hx 0 [(2, .int (zI 9)), (0, .ref a), (1, .ref b1)] dX10_init_42 rfl (by omega) (by decide) rfl ?_
  refine j_goto hx 20 dX10_init_45 rfl ?_
  refine j_iload_n hx 0 dX10_init_20 rfl ?_
  refine j_aload_n hx 1 dX10_init_21 rfl ?_
  obtain ⟨t49, et49, gt49⟩ := zB_get hB48 (k := 1) (u := 56) (by decide) (by decide)
  refine j_getf hx (zB_K hB48) (zB_a hB48) (by decide) rfl rfl rfl rfl inX10 1 (by decide) kf_RX10_13 rfl dX10_init_22 (v := .ref t49) (by rw [et49]; exact zvr rfl) ?_
  refine j_alen hx (zB_K hB48) gt49 (by decide) (by decide) (zlen (zB_K hB48) gt49 (n := 13) rfl rfl) dX10_init_25 ?_
  refine j_icmp_ge hx 48 dX10_init_26 rfl ⟨by decide, by decide⟩ ⟨by decide, by decide⟩ (fun h => absurd h (by decide)) (fun h => ?_)
  refine j_aload_n hx 1 dX10_init_29 rfl ?_
  obtain ⟨t50, et50, gt50⟩ := zB_get hB48 (k := 1) (u := 56) (by decide) (by decide)
  refine j_getf hx (zB_K hB48) (zB_a hB48) (by decide) rfl rfl rfl rfl inX10 1 (by decide) kf_RX10_13 rfl dX10_init_30 (v := .ref t50) (by rw [et50]; exact zvr rfl) ?_
  refine j_iload_n hx 0 dX10_init_33 rfl ?_
  skip
  refine j_newO hx (zB_K hB48) (t := 21) inX0 tyX0_ok kl_RX10_11 kt_RX0 kn_RX0 rfl hf_1 he_1 ⟨by decide, by decide⟩ dX10_init_34 (fun q51 hq51 => ?_)
  refine j_dup hx dX10_init_37 rfl ?_
  refine j_callIN hx (c_X0_init hst q51) lk_RX10_21 [] ⟨rfl, (zB_new hB48 hq51 ar_21_0).1, (zB_new hB48 hq51 ar_21_0).2.1, (zB_new hB48 hq51 ar_21_0).2.2⟩ rfl rfl ⟨by decide, by decide⟩ ⟨by decide, by decide⟩ (k2 := 151) (n2 := 4443) rfl rfl (Nat.le_of_ble_eq_true rfl) dX10_init_38 (kV (fun G52 s52 hP52 => ?_))
  have hB52 := zB_obj hB48 hq51 hP52.1 hP52.2.1 hP52.2.2.1 hP52.2.2.2 (by decide)
  have gp52 := zObj_T hq51 hP52.2.2.1 gt50 (by decide)
  refine j_aast7 hx (zB_K hB52) gp52 (by decide) rfl hP52.2.1 (by decide) rfl rfl rfl rfl (zlen (zB_K hB52) gp52 (n := 13) rfl rfl) (by decide) (by decide) dX10_init_41 ?_
  refine j_ren (P := fun G9 s9 => zB G s0 a 11 [(0, 9, 0), (1, 56, 0)] G9 s9) (zB_ast (u := 1) hB52 gp52 (zdyn hP52.2.1)) (fun G53 s53 hB53 => ?_)
  refine j_iinc hx 0 [(2, .int (zI 10)), (0, .ref a), (1, .ref b1)] dX10_init_42 rfl (by omega) (by decide) rfl ?_
  refine j_goto hx 20 dX10_init_45 rfl ?_
  refine j_iload_n hx 0 dX10_init_20 rfl ?_
  refine j_aload_n hx 1 dX10_init_21 rfl ?_
  obtain ⟨t54, et54, gt54⟩ := zB_get hB53 (k := 1) (u := 56) (by decide) (by decide)
  refine j_getf hx (zB_K hB53) (zB_a hB53) (by decide) rfl rfl rfl rfl inX10 1 (by decide) kf_RX10_13 rfl dX10_init_22 (v := .ref t54) (by rw [et54]; exact zvr rfl) ?_
  refine j_alen hx (zB_K hB53) gt54 (by decide) (by decide) (zlen (zB_K hB53) gt54 (n := 13) rfl rfl) dX10_init_25 ?_
  refine j_icmp_ge hx 48 dX10_init_26 rfl ⟨by decide, by decide⟩ ⟨by decide, by decide⟩ (fun h => absurd h (by decide)) (fun h => ?_)
  refine j_aload_n hx 1 dX10_init_29 rfl ?_
  obtain ⟨t55, et55, gt55⟩ := zB_get hB53 (k := 1) (u := 56) (by decide) (by decide)
  refine j_getf hx (zB_K hB53) (zB_a hB53) (by decide) rfl rfl rfl rfl inX10 1 (by decide) kf_RX10_13 rfl dX10_init_30 (v := .ref t55) (by rw [et55]; exact zvr rfl) ?_
  refine j_iload_n hx 0 dX10_init_33 rfl ?_
  skip
  refine j_newO hx (zB_K hB53) (t := 21) inX0 tyX0_ok kl_RX10_11 kt_RX0 kn_RX0 rfl hf_1 he_1 ⟨by decide, by decide⟩ dX10_init_34 (fun q56 hq56 => ?_)
  refine j_dup hx dX10_init_37 rfl ?_
  refine j_callIN hx (c_X0_init hst q56) lk_RX10_21 [] ⟨rfl, (zB_new hB53 hq56 ar_21_0).1, (zB_new hB53 hq56 ar_21_0).2.1, (zB_new hB53 hq56 ar_21_0).2.2⟩ rfl rfl ⟨by decide, by decide⟩ ⟨by decide, by decide⟩ (k2 := 166) (n2 := 4886) rfl rfl (Nat.le_of_ble_eq_true rfl) dX10_init_38 (kV (fun G57 s57 hP57 => ?_))
  have hB57 := zB_obj hB53 hq56 hP57.1 hP57.2.1 hP57.2.2.1 hP57.2.2.2 (by decide)
  have gp57 := zObj_T hq56 hP57.2.2.1 gt55 (by decide)
  refine j_aast7 hx (zB_K hB57) gp57 (by decide) rfl hP57.2.1 (by decide) rfl rfl rfl rfl (zlen (zB_K hB57) gp57 (n := 13) rfl rfl) (by decide) (by decide) dX10_init_41 ?_
  refine j_ren (P := fun G9 s9 => zB G s0 a 11 [(0, 9, 0), (1, 56, 0)] G9 s9) (zB_ast (u := 1) hB57 gp57 (zdyn hP57.2.1)) (fun G58 s58 hB58 => ?_)
  refine j_iinc hx 0 [(2, .int (zI 11)), (0, .ref a), (1, .ref b1)] dX10_init_42 rfl (by omega) (by decide) rfl ?_
  refine j_goto hx 20 dX10_init_45 rfl ?_
  refine j_iload_n hx 0 dX10_init_20 rfl ?_
  refine j_aload_n hx 1 dX10_init_21 rfl ?_
  obtain ⟨t59, et59, gt59⟩ := zB_get hB58 (k := 1) (u := 56) (by decide) (by decide)
  refine j_getf hx (zB_K hB58) (zB_a hB58) (by decide) rfl rfl rfl rfl inX10 1 (by decide) kf_RX10_13 rfl dX10_init_22 (v := .ref t59) (by rw [et59]; exact zvr rfl) ?_
  refine j_alen hx (zB_K hB58) gt59 (by decide) (by decide) (zlen (zB_K hB58) gt59 (n := 13) rfl rfl) dX10_init_25 ?_
  refine j_icmp_ge hx 48 dX10_init_26 rfl ⟨by decide, by decide⟩ ⟨by decide, by decide⟩ (fun h => absurd h (by decide)) (fun h => ?_)
  refine j_aload_n hx 1 dX10_init_29 rfl ?_
  obtain ⟨t60, et60, gt60⟩ := zB_get hB58 (k := 1) (u := 56) (by decide) (by decide)
  refine j_getf hx (zB_K hB58) (zB_a hB58) (by decide) rfl rfl rfl rfl inX10 1 (by decide) kf_RX10_13 rfl dX10_init_30 (v := .ref t60) (by rw [et60]; exact zvr rfl) ?_
  refine j_iload_n hx 0 dX10_init_33 rfl ?_
  skip
  refine j_newO hx (zB_K hB58) (t := 21) inX0 tyX0_ok kl_RX10_11 kt_RX0 kn_RX0 rfl hf_1 he_1 ⟨by decide, by decide⟩ dX10_init_34 (fun q61 hq61 => ?_)
  refine j_dup hx dX10_init_37 rfl ?_
  refine j_callIN hx (c_X0_init hst q61) lk_RX10_21 [] ⟨rfl, (zB_new hB58 hq61 ar_21_0).1, (zB_new hB58 hq61 ar_21_0).2.1, (zB_new hB58 hq61 ar_21_0).2.2⟩ rfl rfl ⟨by decide, by decide⟩ ⟨by decide, by decide⟩ (k2 := 181) (n2 := 5329) rfl rfl (Nat.le_of_ble_eq_true rfl) dX10_init_38 (kV (fun G62 s62 hP62 => ?_))
  have hB62 := zB_obj hB58 hq61 hP62.1 hP62.2.1 hP62.2.2.1 hP62.2.2.2 (by decide)
  have gp62 := zObj_T hq61 hP62.2.2.1 gt60 (by decide)
  refine j_aast7 hx (zB_K hB62) gp62 (by decide) rfl hP62.2.1 (by decide) rfl rfl rfl rfl (zlen (zB_K hB62) gp62 (n := 13) rfl rfl) (by decide) (by decide) dX10_init_41 ?_
  refine j_ren (P := fun G9 s9 => zB G s0 a 11 [(0, 9, 0), (1, 56, 0)] G9 s9) (zB_ast (u := 1) hB62 gp62 (zdyn hP62.2.1)) (fun G63 s63 hB63 => ?_)
  refine j_iinc hx 0 [(2, .int (zI 12)), (0, .ref a), (1, .ref b1)] dX10_init_42 rfl (by omega) (by decide) rfl ?_
  refine j_goto hx 20 dX10_init_45 rfl ?_
  refine j_iload_n hx 0 dX10_init_20 rfl ?_
  refine j_aload_n hx 1 dX10_init_21 rfl ?_
  obtain ⟨t64, et64, gt64⟩ := zB_get hB63 (k := 1) (u := 56) (by decide) (by decide)
  refine j_getf hx (zB_K hB63) (zB_a hB63) (by decide) rfl rfl rfl rfl inX10 1 (by decide) kf_RX10_13 rfl dX10_init_22 (v := .ref t64) (by rw [et64]; exact zvr rfl) ?_
  refine j_alen hx (zB_K hB63) gt64 (by decide) (by decide) (zlen (zB_K hB63) gt64 (n := 13) rfl rfl) dX10_init_25 ?_
  refine j_icmp_ge hx 48 dX10_init_26 rfl ⟨by decide, by decide⟩ ⟨by decide, by decide⟩ (fun h => absurd h (by decide)) (fun h => ?_)
  refine j_aload_n hx 1 dX10_init_29 rfl ?_
  obtain ⟨t65, et65, gt65⟩ := zB_get hB63 (k := 1) (u := 56) (by decide) (by decide)
  refine j_getf hx (zB_K hB63) (zB_a hB63) (by decide) rfl rfl rfl rfl inX10 1 (by decide) kf_RX10_13 rfl dX10_init_30 (v := .ref t65) (by rw [et65]; exact zvr rfl) ?_
  refine j_iload_n hx 0 dX10_init_33 rfl ?_
  skip
  refine j_newO hx (zB_K hB63) (t := 21) inX0 tyX0_ok kl_RX10_11 kt_RX0 kn_RX0 rfl hf_1 he_1 ⟨by decide, by decide⟩ dX10_init_34 (fun q66 hq66 => ?_)
  refine j_dup hx dX10_init_37 rfl ?_
  refine j_callIN hx (c_X0_init hst q66) lk_RX10_21 [] ⟨rfl, (zB_new hB63 hq66 ar_21_0).1, (zB_new hB63 hq66 ar_21_0).2.1, (zB_new hB63 hq66 ar_21_0).2.2⟩ rfl rfl ⟨by decide, by decide⟩ ⟨by decide, by decide⟩ (k2 := 196) (n2 := 5772) rfl rfl (Nat.le_of_ble_eq_true rfl) dX10_init_38 (kV (fun G67 s67 hP67 => ?_))
  have hB67 := zB_obj hB63 hq66 hP67.1 hP67.2.1 hP67.2.2.1 hP67.2.2.2 (by decide)
  have gp67 := zObj_T hq66 hP67.2.2.1 gt65 (by decide)
  refine j_aast7 hx (zB_K hB67) gp67 (by decide) rfl hP67.2.1 (by decide) rfl rfl rfl rfl (zlen (zB_K hB67) gp67 (n := 13) rfl rfl) (by decide) (by decide) dX10_init_41 ?_
  refine j_ren (P := fun G9 s9 => zB G s0 a 11 [(0, 9, 0), (1, 56, 0)] G9 s9) (zB_ast (u := 1) hB67 gp67 (zdyn hP67.2.1)) (fun G68 s68 hB68 => ?_)
  refine j_iinc hx 0 [(2, .int (zI 13)), (0, .ref a), (1, .ref b1)] dX10_init_42 rfl (by omega) (by decide) rfl ?_
  refine j_goto hx 20 dX10_init_45 rfl ?_
  refine j_iload_n hx 0 dX10_init_20 rfl ?_
  refine j_aload_n hx 1 dX10_init_21 rfl ?_
  obtain ⟨t69, et69, gt69⟩ := zB_get hB68 (k := 1) (u := 56) (by decide) (by decide)
  refine j_getf hx (zB_K hB68) (zB_a hB68) (by decide) rfl rfl rfl rfl inX10 1 (by decide) kf_RX10_13 rfl dX10_init_22 (v := .ref t69) (by rw [et69]; exact zvr rfl) ?_
  refine j_alen hx (zB_K hB68) gt69 (by decide) (by decide) (zlen (zB_K hB68) gt69 (n := 13) rfl rfl) dX10_init_25 ?_
  refine j_icmp_ge hx 48 dX10_init_26 rfl ⟨by decide, by decide⟩ ⟨by decide, by decide⟩ (fun h => ?_) (fun h => absurd h (by decide))
  refine j_pub hB68 (by decide +kernel) cl_11 ?_
  exact j_vret hx hq rfl (by decide) (by decide) dX10_init_48 ⟨rfl, zPub_OK hB68 (by decide +kernel) cl_11, pT_eq, zPub_Y hB68, zPub_c hB68 (by decide)⟩

set_option maxHeartbeats 4000000 in
set_option maxRecDepth 20000 in
theorem c_X4_init {E : zE} {l : Launch} (hst : l.stackTraces = false) (a : Nat) : Con E l yX4_init cX4_init 1 none { frames := 1, cells := 4, slots := 15171, locals := 20 } (fun G s vs => vs = [.ref a] ∧ zOK G s ∧ gT G a = 25 ∧ (∀ k, s a k = 0)) (fun G s _ => pV (fun G2 s2 => zOK G2 s2 ∧ gT G2 a = 5 ∧ zYa a G s G2 s2 ∧ zNc a G G2)) := by
  refine Con.mk hst (by decide) (fun G s vs h => by rw [h.1]; exact Nat.le_of_ble_eq_true rfl) ?_
  rintro X G s0 vs ⟨rfl, hO, ha, hz⟩ rfl hx hq
  show JJ X E 1 G s0 0 0 [(0, .ref a)] 0 []
  have hB0 := zB_0 (t := 5) hO ha hz (by decide)
  refine j_aload_n hx 0 dX4_init_0 rfl ?_
  refine j_objI hx km_RX4_3 ⟨by decide, by decide⟩ dX4_init_1 ?_
  refine j_aload_n hx 0 dX4_init_4 rfl ?_
  refine j_sipush hx dX4_init_5 rfl ?_
  refine j_newA hx (zB_K hB0) (kd := 3) (t := 57) (N := 323) rfl ka_long rfl (fun _ _ h => h) (a := (323, .inr (.inl (fun _ => zL 0)))) (fun _ => rfl) (fun _ => rfl) rfl (by decide) (by decide) ⟨by decide, by decide⟩ dX4_init_8 (fun q1 hq1 => ?_)
  refine p25_0 hx (zGK_push (zB_K hB0) hq1 ar_57_323) (gT_put hq1 (zB_a hB0) (by decide)) kf_RX4_11 rfl rfl dX4_init_10 ?_
  refine j_ren (P := fun G9 s9 => zB G s0 a 5 [(0, 57, 0)] G9 s9) (zB_arr hB0 rw_5 (by decide) hq1 ar_57_323) (fun G2 s2 hB2 => ?_)
  refine j_aload_n hx 0 dX4_init_13 rfl ?_
  refine j_sipush hx dX4_init_14 rfl ?_
  refine j_newA hx (zB_K hB2) (kd := 3) (t := 53) (N := 3584) rfl ka_long rfl (fun _ _ h => h) (a := (3584, .inr (.inl (fun _ => zL 0)))) (fun _ => rfl) (fun _ => rfl) rfl (by decide) (by decide) ⟨by decide, by decide⟩ dX4_init_17 (fun q3 hq3 => ?_)
  refine p25_1 hx (zGK_push (zB_K hB2) hq3 ar_53_3584) (gT_put hq3 (zB_a hB2) (by decide)) kf_RX4_15 rfl rfl dX4_init_19 ?_
  refine j_ren (P := fun G9 s9 => zB G s0 a 5 [(1, 53, 0), (0, 57, 0)] G9 s9) (zB_arr hB2 rw_5 (by decide) hq3 ar_53_3584) (fun G4 s4 hB4 => ?_)
  refine j_aload_n hx 0 dX4_init_22 rfl ?_
  refine j_sipush hx dX4_init_23 rfl ?_
  refine j_newA hx (zB_K hB4) (kd := 2) (t := 59) (N := 10752) rfl ka_int rfl (fun _ _ h => h) (a := (10752, .inl (fun _ => zI 0))) (fun _ => rfl) (fun _ => rfl) rfl (by decide) (by decide) ⟨by decide, by decide⟩ dX4_init_26 (fun q5 hq5 => ?_)
  refine p25_2 hx (zGK_push (zB_K hB4) hq5 ar_59_10752) (gT_put hq5 (zB_a hB4) (by decide)) kf_RX4_20 rfl rfl dX4_init_28 ?_
  refine j_ren (P := fun G9 s9 => zB G s0 a 5 [(2, 59, 0), (1, 53, 0), (0, 57, 0)] G9 s9) (zB_arr hB4 rw_5 (by decide) hq5 ar_59_10752) (fun G6 s6 hB6 => ?_)
  refine j_aload_n hx 0 dX4_init_31 rfl ?_
  refine j_sipush hx dX4_init_32 rfl ?_
  refine j_newA hx (zB_K hB6) (kd := 2) (t := 60) (N := 512) rfl ka_int rfl (fun _ _ h => h) (a := (512, .inl (fun _ => zI 0))) (fun _ => rfl) (fun _ => rfl) rfl (by decide) (by decide) ⟨by decide, by decide⟩ dX4_init_35 (fun q7 hq7 => ?_)
  refine p25_3 hx (zGK_push (zB_K hB6) hq7 ar_60_512) (gT_put hq7 (zB_a hB6) (by decide)) kf_RX4_24 rfl rfl dX4_init_37 ?_
  refine j_ren (P := fun G9 s9 => zB G s0 a 5 [(3, 60, 0), (2, 59, 0), (1, 53, 0), (0, 57, 0)] G9 s9) (zB_arr hB6 rw_5 (by decide) hq7 ar_60_512) (fun G8 s8 hB8 => ?_)
  refine j_pub hB8 (by decide +kernel) cl_5 ?_
  exact j_vret hx hq rfl (by decide) (by decide) dX4_init_40 ⟨rfl, zPub_OK hB8 (by decide +kernel) cl_5, pT_eq, zPub_Y hB8, zPub_c hB8 (by decide)⟩

theorem lk_RX5_9 : LkIN RX5 9 RX11 yX9_init cX9_init 1 0 := ⟨km_RX5_9, ki_yX9_init, kn_RX9, kc_yX9_init, rfl, by decide +kernel, by decide +kernel, by decide +kernel⟩
theorem lk_RX5_24 : LkI RX5 24 yX3_init cX3_init 2 1 := ⟨km_RX5_24, ki_yX3_init, kn_RX3, kc_yX3_init, rfl, by decide +kernel, by decide +kernel, by decide +kernel⟩
set_option maxHeartbeats 4000000 in
set_option maxRecDepth 20000 in
theorem c_X5_init {E : zE} {l : Launch} (hst : l.stackTraces = false) (a : Nat) (b1 : Nat) : Con E l yX5_init cX5_init 2 none { frames := 4, cells := 24, slots := 1424, locals := 81 } (fun G s vs => vs = [.ref a, .ref b1] ∧ zOK G s ∧ gT G a = 26 ∧ (∀ k, s a k = 0) ∧ gT G b1 = 9) (fun G s _ => pV (fun G2 s2 => zOK G2 s2 ∧ gT G2 a = 6 ∧ zYa a G s G2 s2 ∧ zNc a G G2)) := by
  refine Con.mk hst (by decide) (fun G s vs h => by rw [h.1]; exact Nat.le_of_ble_eq_true rfl) ?_
  rintro X G s0 vs ⟨rfl, hO, ha, hz, hb1⟩ rfl hx hq
  show JJ X E 2 G s0 0 0 [(0, .ref a), (1, .ref b1)] 0 []
  have hB0 := zB_0 (t := 6) hO ha hz (by decide)
  refine j_aload_n hx 0 dX5_init_0 rfl ?_
  refine j_objI hx km_RX5_1 ⟨by decide, by decide⟩ dX5_init_1 ?_
  refine j_aload_n hx 0 dX5_init_4 rfl ?_
  skip
  refine j_newO hx (zB_K hB0) (t := 30) inX9 tyX9_ok kl_RX5_7 kt_RX9 kn_RX9 rfl hf_10 he_10 ⟨by decide, by decide⟩ dX5_init_5 (fun q1 hq1 => ?_)
  refine j_dup hx dX5_init_8 rfl ?_
  refine j_callIN hx (c_X9_init hst q1) lk_RX5_9 [] ⟨rfl, (zB_new hB0 hq1 ar_30_0).1, (zB_new hB0 hq1 ar_30_0).2.1, (zB_new hB0 hq1 ar_30_0).2.2⟩ rfl rfl ⟨by decide, by decide⟩ ⟨by decide, by decide⟩ (k2 := 2) (n2 := 606) rfl rfl (Nat.le_of_ble_eq_true rfl) dX5_init_9 (kV (fun G2 s2 hP2 => ?_))
  have hB2 := zB_obj hB0 hq1 hP2.1 hP2.2.1 hP2.2.2.1 hP2.2.2.2 (by decide)
  refine p26_1 hx (zB_K hB2) (zB_a hB2) kf_RX5_10 rfl rfl dX5_init_12 ?_
  refine j_ren (P := fun G9 s9 => zB G s0 a 6 [(1, 10, 0)] G9 s9) (zB_ref hB2 rw_6 (by decide) (by decide) hP2.2.1) (fun G3 s3 hB3 => ?_)
  refine j_aload_n hx 0 dX5_init_15 rfl ?_
  refine j_sipush hx dX5_init_16 rfl ?_
  refine j_newA hx (zB_K hB3) (kd := 3) (t := 57) (N := 323) rfl ka_long rfl (fun _ _ h => h) (a := (323, .inr (.inl (fun _ => zL 0)))) (fun _ => rfl) (fun _ => rfl) rfl (by decide) (by decide) ⟨by decide, by decide⟩ dX5_init_19 (fun q4 hq4 => ?_)
  refine p26_2 hx (zGK_push (zB_K hB3) hq4 ar_57_323) (gT_put hq4 (zB_a hB3) (by decide)) kf_RX5_18 rfl rfl dX5_init_21 ?_
  refine j_ren (P := fun G9 s9 => zB G s0 a 6 [(2, 57, 0), (1, 10, 0)] G9 s9) (zB_arr hB3 rw_6 (by decide) hq4 ar_57_323) (fun G5 s5 hB5 => ?_)
  refine j_aload_n hx 0 dX5_init_24 rfl ?_
  skip
  refine j_newO hx (zB_K hB5) (t := 24) inX3 tyX3_ok kl_RX5_22 kt_RX3 kn_RX3 rfl hf_4 he_4 ⟨by decide, by decide⟩ dX5_init_25 (fun q6 hq6 => ?_)
  refine j_dup hx dX5_init_28 rfl ?_
  refine j_aload_n hx 1 dX5_init_29 rfl ?_
  refine j_callI hx (c_X3_init hst q6 b1) lk_RX5_24 [.ref b1] ⟨rfl, (zB_new hB5 hq6 ar_24_0).1, (zB_new hB5 hq6 ar_24_0).2.1, (zB_new hB5 hq6 ar_24_0).2.2, (gT_put hq6 (zB_old hB5 hb1 (by decide) (zne ha hb1 (by decide))) (by decide))⟩ rfl rfl ⟨by decide, by decide⟩ ⟨by decide, by decide⟩ (k2 := 24) (n2 := 1424) rfl rfl (Nat.le_of_ble_eq_true rfl) dX5_init_30 (kV (fun G7 s7 hP7 => ?_))
  have hB7 := zB_obj hB5 hq6 hP7.1 hP7.2.1 hP7.2.2.1 hP7.2.2.2 (by decide)
  refine p26_0 hx (zB_K hB7) (zB_a hB7) kf_RX5_27 rfl rfl dX5_init_33 ?_
  refine j_ren (P := fun G9 s9 => zB G s0 a 6 [(0, 4, 0), (2, 57, 0), (1, 10, 0)] G9 s9) (zB_ref hB7 rw_6 (by decide) (by decide) hP7.2.1) (fun G8 s8 hB8 => ?_)
  refine j_pub hB8 (by decide +kernel) cl_6 ?_
  exact j_vret hx hq rfl (by decide) (by decide) dX5_init_36 ⟨rfl, zPub_OK hB8 (by decide +kernel) cl_6, pT_eq, zPub_Y hB8, zPub_c hB8 (by decide)⟩

theorem lk_RX11_9 : LkIN RX11 9 RX11 yX9_init cX9_init 1 0 := ⟨km_RX11_9, ki_yX9_init, kn_RX9, kc_yX9_init, rfl, by decide +kernel, by decide +kernel, by decide +kernel⟩
theorem lk_RX11_18 : LkIN RX11 18 RX11 yX8_init cX8_init 1 0 := ⟨km_RX11_18, ki_yX8_init, kn_RX8, kc_yX8_init, rfl, by decide +kernel, by decide +kernel, by decide +kernel⟩
theorem lk_RX11_28 : LkI RX11 28 yX7_init cX7_init 1 0 := ⟨km_RX11_28, ki_yX7_init, kn_RX7, kc_yX7_init, rfl, by decide +kernel, by decide +kernel, by decide +kernel⟩
theorem lk_RX11_35 : LkIN RX11 35 RX11 yX1_init cX1_init 1 0 := ⟨km_RX11_35, ki_yX1_init, kn_RX1, kc_yX1_init, rfl, by decide +kernel, by decide +kernel, by decide +kernel⟩
theorem lk_RX11_45 : LkI RX11 45 yX3_init cX3_init 2 1 := ⟨km_RX11_45, ki_yX3_init, kn_RX3, kc_yX3_init, rfl, by decide +kernel, by decide +kernel, by decide +kernel⟩
theorem lk_RX11_54 : LkI RX11 54 yX2_init cX2_init 2 1 := ⟨km_RX11_54, ki_yX2_init, kn_RX2, kc_yX2_init, rfl, by decide +kernel, by decide +kernel, by decide +kernel⟩
theorem lk_RX11_61 : LkI RX11 61 yX10_init cX10_init 3 1 := ⟨km_RX11_61, ki_yX10_init, kn_RX10, kc_yX10_init, rfl, by decide +kernel, by decide +kernel, by decide +kernel⟩
theorem lk_RX11_68 : LkIN RX11 68 RX11 yX4_init cX4_init 1 0 := ⟨km_RX11_68, ki_yX4_init, kn_RX4, kc_yX4_init, rfl, by decide +kernel, by decide +kernel, by decide +kernel⟩
theorem lk_RX11_75 : LkI RX11 75 yX5_init cX5_init 2 1 := ⟨km_RX11_75, ki_yX5_init, kn_RX5, kc_yX5_init, rfl, by decide +kernel, by decide +kernel, by decide +kernel⟩
set_option maxHeartbeats 4000000 in
set_option maxRecDepth 20000 in
theorem c_X11_init {E : zE} {l : Launch} (hst : l.stackTraces = false) (a : Nat) : Con E l yX11_init cX11_init 1 none { frames := 5, cells := 371, slots := 56111, locals := 102 } (fun G s vs => vs = [.ref a] ∧ zOK G s ∧ gT G a = 32 ∧ (∀ k, s a k = 0)) (fun G s _ => pV (fun G2 s2 => zOK G2 s2 ∧ gT G2 a = 12 ∧ zYa a G s G2 s2 ∧ zNc a G G2)) := by
  refine Con.mk hst (by decide) (fun G s vs h => by rw [h.1]; exact Nat.le_of_ble_eq_true rfl) ?_
  rintro X G s0 vs ⟨rfl, hO, ha, hz⟩ rfl hx hq
  show JJ X E 1 G s0 0 0 [(0, .ref a)] 0 []
  have hB0 := zB_0 (t := 12) hO ha hz (by decide)
  refine j_aload_n hx 0 dX11_init_0 rfl ?_
  refine j_objI hx km_RX11_1 ⟨by decide, by decide⟩ dX11_init_1 ?_
  refine j_aload_n hx 0 dX11_init_4 rfl ?_
  skip
  refine j_newO hx (zB_K hB0) (t := 30) inX9 tyX9_ok kl_RX11_7 kt_RX9 kn_RX9 rfl hf_10 he_10 ⟨by decide, by decide⟩ dX11_init_5 (fun q1 hq1 => ?_)
  refine j_dup hx dX11_init_8 rfl ?_
  refine j_callIN hx (c_X9_init hst q1) lk_RX11_9 [] ⟨rfl, (zB_new hB0 hq1 ar_30_0).1, (zB_new hB0 hq1 ar_30_0).2.1, (zB_new hB0 hq1 ar_30_0).2.2⟩ rfl rfl ⟨by decide, by decide⟩ ⟨by decide, by decide⟩ (k2 := 2) (n2 := 606) rfl rfl (Nat.le_of_ble_eq_true rfl) dX11_init_9 (kV (fun G2 s2 hP2 => ?_))
  have hB2 := zB_obj hB0 hq1 hP2.1 hP2.2.1 hP2.2.2.1 hP2.2.2.2 (by decide)
  refine p32_0 hx (zB_K hB2) (zB_a hB2) kf_RX11_10 rfl rfl dX11_init_12 ?_
  refine j_ren (P := fun G9 s9 => zB G s0 a 12 [(0, 10, 0)] G9 s9) (zB_ref hB2 rw_12 (by decide) (by decide) hP2.2.1) (fun G3 s3 hB3 => ?_)
  refine j_aload_n hx 0 dX11_init_15 rfl ?_
  skip
  refine j_newO hx (zB_K hB3) (t := 29) inX8 tyX8_ok kl_RX11_16 kt_RX8 kn_RX8 rfl hf_9 he_9 ⟨by decide, by decide⟩ dX11_init_16 (fun q4 hq4 => ?_)
  refine j_dup hx dX11_init_19 rfl ?_
  refine j_callIN hx (c_X8_init hst q4) lk_RX11_18 [] ⟨rfl, (zB_new hB3 hq4 ar_29_0).1, (zB_new hB3 hq4 ar_29_0).2.1, (zB_new hB3 hq4 ar_29_0).2.2⟩ rfl rfl ⟨by decide, by decide⟩ ⟨by decide, by decide⟩ (k2 := 21) (n2 := 1085) rfl rfl (Nat.le_of_ble_eq_true rfl) dX11_init_20 (kV (fun G5 s5 hP5 => ?_))
  have hB5 := zB_obj hB3 hq4 hP5.1 hP5.2.1 hP5.2.2.1 hP5.2.2.2 (by decide)
  refine p32_1 hx (zB_K hB5) (zB_a hB5) kf_RX11_19 rfl rfl dX11_init_23 ?_
  refine j_ren (P := fun G9 s9 => zB G s0 a 12 [(1, 9, 0), (0, 10, 0)] G9 s9) (zB_ref hB5 rw_12 (by decide) (by decide) hP5.2.1) (fun G6 s6 hB6 => ?_)
  refine j_aload_n hx 0 dX11_init_26 rfl ?_
  skip
  refine j_newO hx (zB_K hB6) (t := 29) inX8 tyX8_ok kl_RX11_16 kt_RX8 kn_RX8 rfl hf_9 he_9 ⟨by decide, by decide⟩ dX11_init_27 (fun q7 hq7 => ?_)
  refine j_dup hx dX11_init_30 rfl ?_
  refine j_callIN hx (c_X8_init hst q7) lk_RX11_18 [] ⟨rfl, (zB_new hB6 hq7 ar_29_0).1, (zB_new hB6 hq7 ar_29_0).2.1, (zB_new hB6 hq7 ar_29_0).2.2⟩ rfl rfl ⟨by decide, by decide⟩ ⟨by decide, by decide⟩ (k2 := 40) (n2 := 1564) rfl rfl (Nat.le_of_ble_eq_true rfl) dX11_init_31 (kV (fun G8 s8 hP8 => ?_))
  have hB8 := zB_obj hB6 hq7 hP8.1 hP8.2.1 hP8.2.2.1 hP8.2.2.2 (by decide)
  refine p32_2 hx (zB_K hB8) (zB_a hB8) kf_RX11_23 rfl rfl dX11_init_34 ?_
  refine j_ren (P := fun G9 s9 => zB G s0 a 12 [(2, 9, 0), (1, 9, 0), (0, 10, 0)] G9 s9) (zB_ref hB8 rw_12 (by decide) (by decide) hP8.2.1) (fun G9 s9 hB9 => ?_)
  refine j_aload_n hx 0 dX11_init_37 rfl ?_
  skip
  refine j_newO hx (zB_K hB9) (t := 28) inX7 tyX7_ok kl_RX11_26 kt_RX7 kn_RX7 rfl hf_8 he_8 ⟨by decide, by decide⟩ dX11_init_38 (fun q10 hq10 => ?_)
  refine j_dup hx dX11_init_41 rfl ?_
  refine j_callI hx (c_X7_init hst q10) lk_RX11_28 [] ⟨rfl, (zB_new hB9 hq10 ar_28_0).1, (zB_new hB9 hq10 ar_28_0).2.1, (zB_new hB9 hq10 ar_28_0).2.2⟩ rfl rfl ⟨by decide, by decide⟩ ⟨by decide, by decide⟩ (k2 := 42) (n2 := 1716) rfl rfl (Nat.le_of_ble_eq_true rfl) dX11_init_42 (kV (fun G11 s11 hP11 => ?_))
  have hB11 := zB_obj hB9 hq10 hP11.1 hP11.2.1 hP11.2.2.1 hP11.2.2.2 (by decide)
  refine p32_3 hx (zB_K hB11) (zB_a hB11) kf_RX11_29 rfl rfl dX11_init_45 ?_
  refine j_ren (P := fun G9 s9 => zB G s0 a 12 [(3, 8, 0), (2, 9, 0), (1, 9, 0), (0, 10, 0)] G9 s9) (zB_ref hB11 rw_12 (by decide) (by decide) hP11.2.1) (fun G12 s12 hB12 => ?_)
  refine j_aload_n hx 0 dX11_init_48 rfl ?_
  skip
  refine j_newO hx (zB_K hB12) (t := 22) inX1 tyX1_ok kl_RX11_33 kt_RX1 kn_RX1 rfl hf_2 he_2 ⟨by decide, by decide⟩ dX11_init_49 (fun q13 hq13 => ?_)
  refine j_dup hx dX11_init_52 rfl ?_
  refine j_callIN hx (c_X1_init hst q13) lk_RX11_35 [] ⟨rfl, (zB_new hB12 hq13 ar_22_0).1, (zB_new hB12 hq13 ar_22_0).2.1, (zB_new hB12 hq13 ar_22_0).2.2⟩ rfl rfl ⟨by decide, by decide⟩ ⟨by decide, by decide⟩ (k2 := 45) (n2 := 1743) rfl rfl (Nat.le_of_ble_eq_true rfl) dX11_init_53 (kV (fun G14 s14 hP14 => ?_))
  have hB14 := zB_obj hB12 hq13 hP14.1 hP14.2.1 hP14.2.2.1 hP14.2.2.2 (by decide)
  refine p32_4 hx (zB_K hB14) (zB_a hB14) kf_RX11_36 rfl rfl dX11_init_56 ?_
  refine j_ren (P := fun G9 s9 => zB G s0 a 12 [(4, 2, 0), (3, 8, 0), (2, 9, 0), (1, 9, 0), (0, 10, 0)] G9 s9) (zB_ref hB14 rw_12 (by decide) (by decide) hP14.2.1) (fun G15 s15 hB15 => ?_)
  refine j_aload_n hx 0 dX11_init_59 rfl ?_
  skip
  refine j_newO hx (zB_K hB15) (t := 22) inX1 tyX1_ok kl_RX11_33 kt_RX1 kn_RX1 rfl hf_2 he_2 ⟨by decide, by decide⟩ dX11_init_60 (fun q16 hq16 => ?_)
  refine j_dup hx dX11_init_63 rfl ?_
  refine j_callIN hx (c_X1_init hst q16) lk_RX11_35 [] ⟨rfl, (zB_new hB15 hq16 ar_22_0).1, (zB_new hB15 hq16 ar_22_0).2.1, (zB_new hB15 hq16 ar_22_0).2.2⟩ rfl rfl ⟨by decide, by decide⟩ ⟨by decide, by decide⟩ (k2 := 48) (n2 := 1770) rfl rfl (Nat.le_of_ble_eq_true rfl) dX11_init_64 (kV (fun G17 s17 hP17 => ?_))
  have hB17 := zB_obj hB15 hq16 hP17.1 hP17.2.1 hP17.2.2.1 hP17.2.2.2 (by decide)
  refine p32_5 hx (zB_K hB17) (zB_a hB17) kf_RX11_40 rfl rfl dX11_init_67 ?_
  refine j_ren (P := fun G9 s9 => zB G s0 a 12 [(5, 2, 0), (4, 2, 0), (3, 8, 0), (2, 9, 0), (1, 9, 0), (0, 10, 0)] G9 s9) (zB_ref hB17 rw_12 (by decide) (by decide) hP17.2.1) (fun G18 s18 hB18 => ?_)
  refine j_aload_n hx 0 dX11_init_70 rfl ?_
  skip
  refine j_newO hx (zB_K hB18) (t := 24) inX3 tyX3_ok kl_RX11_43 kt_RX3 kn_RX3 rfl hf_4 he_4 ⟨by decide, by decide⟩ dX11_init_71 (fun q19 hq19 => ?_)
  refine j_dup hx dX11_init_74 rfl ?_
  refine j_aload_n hx 0 dX11_init_75 rfl ?_
  obtain ⟨t20, et20, gt20⟩ := zB_get hB18 (k := 1) (u := 9) (by decide) (by decide)
  refine j_getf hx (zGK_push (zB_K hB18) hq19 ar_24_0) (gT_put hq19 (zB_a hB18) (by decide)) (by decide) rfl rfl rfl rfl inX11 1 (by decide) kf_RX11_19 rfl dX11_init_76 (v := .ref t20) (by rw [zZ_ne (fun e => (zB_q hB18 hq19).1 e.symm), et20]; exact zvr rfl) ?_
  refine j_callI hx (c_X3_init hst q19 t20) lk_RX11_45 [.ref t20] ⟨rfl, (zB_new hB18 hq19 ar_24_0).1, (zB_new hB18 hq19 ar_24_0).2.1, (zB_new hB18 hq19 ar_24_0).2.2, (gT_put hq19 gt20 (by decide))⟩ rfl rfl ⟨by decide, by decide⟩ ⟨by decide, by decide⟩ (k2 := 69) (n2 := 2265) rfl rfl (Nat.le_of_ble_eq_true rfl) dX11_init_79 (kV (fun G21 s21 hP21 => ?_))
  have hB21 := zB_obj hB18 hq19 hP21.1 hP21.2.1 hP21.2.2.1 hP21.2.2.2 (by decide)
  refine p32_6 hx (zB_K hB21) (zB_a hB21) kf_RX11_48 rfl rfl dX11_init_82 ?_
  refine j_ren (P := fun G9 s9 => zB G s0 a 12 [(6, 4, 0), (5, 2, 0), (4, 2, 0), (3, 8, 0), (2, 9, 0), (1, 9, 0), (0, 10, 0)] G9 s9) (zB_ref hB21 rw_12 (by decide) (by decide) hP21.2.1) (fun G22 s22 hB22 => ?_)
  refine j_aload_n hx 0 dX11_init_85 rfl ?_
  skip
  refine j_newO hx (zB_K hB22) (t := 23) inX2 tyX2_ok kl_RX11_52 kt_RX2 kn_RX2 rfl hf_3 he_3 ⟨by decide, by decide⟩ dX11_init_86 (fun q23 hq23 => ?_)
  refine j_dup hx dX11_init_89 rfl ?_
  refine j_aload_n hx 0 dX11_init_90 rfl ?_
  obtain ⟨t24, et24, gt24⟩ := zB_get hB22 (k := 1) (u := 9) (by decide) (by decide)
  refine j_getf hx (zGK_push (zB_K hB22) hq23 ar_23_0) (gT_put hq23 (zB_a hB22) (by decide)) (by decide) rfl rfl rfl rfl inX11 1 (by decide) kf_RX11_19 rfl dX11_init_91 (v := .ref t24) (by rw [zZ_ne (fun e => (zB_q hB22 hq23).1 e.symm), et24]; exact zvr rfl) ?_
  refine j_callI hx (c_X2_init hst q23 t24) lk_RX11_54 [.ref t24] ⟨rfl, (zB_new hB22 hq23 ar_23_0).1, (zB_new hB22 hq23 ar_23_0).2.1, (zB_new hB22 hq23 ar_23_0).2.2, (gT_put hq23 gt24 (by decide))⟩ rfl rfl ⟨by decide, by decide⟩ ⟨by decide, by decide⟩ (k2 := 94) (n2 := 30872) rfl rfl (Nat.le_of_ble_eq_true rfl) dX11_init_94 (kV (fun G25 s25 hP25 => ?_))
  have hB25 := zB_obj hB22 hq23 hP25.1 hP25.2.1 hP25.2.2.1 hP25.2.2.2 (by decide)
  refine p32_7 hx (zB_K hB25) (zB_a hB25) kf_RX11_55 rfl rfl dX11_init_97 ?_
  refine j_ren (P := fun G9 s9 => zB G s0 a 12 [(7, 3, 0), (6, 4, 0), (5, 2, 0), (4, 2, 0), (3, 8, 0), (2, 9, 0), (1, 9, 0), (0, 10, 0)] G9 s9) (zB_ref hB25 rw_12 (by decide) (by decide) hP25.2.1) (fun G26 s26 hB26 => ?_)
  refine j_aload_n hx 0 dX11_init_100 rfl ?_
  skip
  refine j_newO hx (zB_K hB26) (t := 31) inX10 tyX10_ok kl_RX11_59 kt_RX10 kn_RX10 rfl hf_11 he_11 ⟨by decide, by decide⟩ dX11_init_101 (fun q27 hq27 => ?_)
  refine j_dup hx dX11_init_104 rfl ?_
  refine j_aload_n hx 0 dX11_init_105 rfl ?_
  obtain ⟨t28, et28, gt28⟩ := zB_get hB26 (k := 1) (u := 9) (by decide) (by decide)
  refine j_getf hx (zGK_push (zB_K hB26) hq27 ar_31_0) (gT_put hq27 (zB_a hB26) (by decide)) (by decide) rfl rfl rfl rfl inX11 1 (by decide) kf_RX11_19 rfl dX11_init_106 (v := .ref t28) (by rw [zZ_ne (fun e => (zB_q hB26 hq27).1 e.symm), et28]; exact zvr rfl) ?_
  refine j_callI hx (c_X10_init hst q27 t28) lk_RX11_61 [.ref t28] ⟨rfl, (zB_new hB26 hq27 ar_31_0).1, (zB_new hB26 hq27 ar_31_0).2.1, (zB_new hB26 hq27 ar_31_0).2.2, (gT_put hq27 gt28 (by decide))⟩ rfl rfl ⟨by decide, by decide⟩ ⟨by decide, by decide⟩ (k2 := 291) (n2 := 36653) rfl rfl (Nat.le_of_ble_eq_true rfl) dX11_init_109 (kV (fun G29 s29 hP29 => ?_))
  have hB29 := zB_obj hB26 hq27 hP29.1 hP29.2.1 hP29.2.2.1 hP29.2.2.2 (by decide)
  refine p32_8 hx (zB_K hB29) (zB_a hB29) kf_RX11_62 rfl rfl dX11_init_112 ?_
  refine j_ren (P := fun G9 s9 => zB G s0 a 12 [(8, 11, 0), (7, 3, 0), (6, 4, 0), (5, 2, 0), (4, 2, 0), (3, 8, 0), (2, 9, 0), (1, 9, 0), (0, 10, 0)] G9 s9) (zB_ref hB29 rw_12 (by decide) (by decide) hP29.2.1) (fun G30 s30 hB30 => ?_)
  refine j_aload_n hx 0 dX11_init_115 rfl ?_
  skip
  refine j_newO hx (zB_K hB30) (t := 25) inX4 tyX4_ok kl_RX11_66 kt_RX4 kn_RX4 rfl hf_5 he_5 ⟨by decide, by decide⟩ dX11_init_116 (fun q31 hq31 => ?_)
  refine j_dup hx dX11_init_119 rfl ?_
  refine j_callIN hx (c_X4_init hst q31) lk_RX11_68 [] ⟨rfl, (zB_new hB30 hq31 ar_25_0).1, (zB_new hB30 hq31 ar_25_0).2.1, (zB_new hB30 hq31 ar_25_0).2.2⟩ rfl rfl ⟨by decide, by decide⟩ ⟨by decide, by decide⟩ (k2 := 296) (n2 := 51830) rfl rfl (Nat.le_of_ble_eq_true rfl) dX11_init_120 (kV (fun G32 s32 hP32 => ?_))
  have hB32 := zB_obj hB30 hq31 hP32.1 hP32.2.1 hP32.2.2.1 hP32.2.2.2 (by decide)
  refine p32_9 hx (zB_K hB32) (zB_a hB32) kf_RX11_69 rfl rfl dX11_init_123 ?_
  refine j_ren (P := fun G9 s9 => zB G s0 a 12 [(9, 5, 0), (8, 11, 0), (7, 3, 0), (6, 4, 0), (5, 2, 0), (4, 2, 0), (3, 8, 0), (2, 9, 0), (1, 9, 0), (0, 10, 0)] G9 s9) (zB_ref hB32 rw_12 (by decide) (by decide) hP32.2.1) (fun G33 s33 hB33 => ?_)
  refine j_aload_n hx 0 dX11_init_126 rfl ?_
  skip
  refine j_newO hx (zB_K hB33) (t := 26) inX5 tyX5_ok kl_RX11_73 kt_RX5 kn_RX5 rfl hf_6 he_6 ⟨by decide, by decide⟩ dX11_init_127 (fun q34 hq34 => ?_)
  refine j_dup hx dX11_init_130 rfl ?_
  refine j_aload_n hx 0 dX11_init_131 rfl ?_
  obtain ⟨t35, et35, gt35⟩ := zB_get hB33 (k := 1) (u := 9) (by decide) (by decide)
  refine j_getf hx (zGK_push (zB_K hB33) hq34 ar_26_0) (gT_put hq34 (zB_a hB33) (by decide)) (by decide) rfl rfl rfl rfl inX11 1 (by decide) kf_RX11_19 rfl dX11_init_132 (v := .ref t35) (by rw [zZ_ne (fun e => (zB_q hB33 hq34).1 e.symm), et35]; exact zvr rfl) ?_
  refine j_callI hx (c_X5_init hst q34 t35) lk_RX11_75 [.ref t35] ⟨rfl, (zB_new hB33 hq34 ar_26_0).1, (zB_new hB33 hq34 ar_26_0).2.1, (zB_new hB33 hq34 ar_26_0).2.2, (gT_put hq34 gt35 (by decide))⟩ rfl rfl ⟨by decide, by decide⟩ ⟨by decide, by decide⟩ (k2 := 321) (n2 := 53257) rfl rfl (Nat.le_of_ble_eq_true rfl) dX11_init_135 (kV (fun G36 s36 hP36 => ?_))
  have hB36 := zB_obj hB33 hq34 hP36.1 hP36.2.1 hP36.2.2.1 hP36.2.2.2 (by decide)
  refine p32_10 hx (zB_K hB36) (zB_a hB36) kf_RX11_76 rfl rfl dX11_init_138 ?_
  refine j_ren (P := fun G9 s9 => zB G s0 a 12 [(10, 6, 0), (9, 5, 0), (8, 11, 0), (7, 3, 0), (6, 4, 0), (5, 2, 0), (4, 2, 0), (3, 8, 0), (2, 9, 0), (1, 9, 0), (0, 10, 0)] G9 s9) (zB_ref hB36 rw_12 (by decide) (by decide) hP36.2.1) (fun G37 s37 hB37 => ?_)
  refine j_aload_n hx 0 dX11_init_141 rfl ?_
  skip
  refine j_newO hx (zB_K hB37) (t := 26) inX5 tyX5_ok kl_RX11_73 kt_RX5 kn_RX5 rfl hf_6 he_6 ⟨by decide, by decide⟩ dX11_init_142 (fun q38 hq38 => ?_)
  refine j_dup hx dX11_init_145 rfl ?_
  refine j_aload_n hx 0 dX11_init_146 rfl ?_
  obtain ⟨t39, et39, gt39⟩ := zB_get hB37 (k := 1) (u := 9) (by decide) (by decide)
  refine j_getf hx (zGK_push (zB_K hB37) hq38 ar_26_0) (gT_put hq38 (zB_a hB37) (by decide)) (by decide) rfl rfl rfl rfl inX11 1 (by decide) kf_RX11_19 rfl dX11_init_147 (v := .ref t39) (by rw [zZ_ne (fun e => (zB_q hB37 hq38).1 e.symm), et39]; exact zvr rfl) ?_
  refine j_callI hx (c_X5_init hst q38 t39) lk_RX11_75 [.ref t39] ⟨rfl, (zB_new hB37 hq38 ar_26_0).1, (zB_new hB37 hq38 ar_26_0).2.1, (zB_new hB37 hq38 ar_26_0).2.2, (gT_put hq38 gt39 (by decide))⟩ rfl rfl ⟨by decide, by decide⟩ ⟨by decide, by decide⟩ (k2 := 346) (n2 := 54684) rfl rfl (Nat.le_of_ble_eq_true rfl) dX11_init_150 (kV (fun G40 s40 hP40 => ?_))
  have hB40 := zB_obj hB37 hq38 hP40.1 hP40.2.1 hP40.2.2.1 hP40.2.2.2 (by decide)
  refine p32_11 hx (zB_K hB40) (zB_a hB40) kf_RX11_80 rfl rfl dX11_init_153 ?_
  refine j_ren (P := fun G9 s9 => zB G s0 a 12 [(11, 6, 0), (10, 6, 0), (9, 5, 0), (8, 11, 0), (7, 3, 0), (6, 4, 0), (5, 2, 0), (4, 2, 0), (3, 8, 0), (2, 9, 0), (1, 9, 0), (0, 10, 0)] G9 s9) (zB_ref hB40 rw_12 (by decide) (by decide) hP40.2.1) (fun G41 s41 hB41 => ?_)
  refine j_aload_n hx 0 dX11_init_156 rfl ?_
  skip
  refine j_newO hx (zB_K hB41) (t := 26) inX5 tyX5_ok kl_RX11_73 kt_RX5 kn_RX5 rfl hf_6 he_6 ⟨by decide, by decide⟩ dX11_init_157 (fun q42 hq42 => ?_)
  refine j_dup hx dX11_init_160 rfl ?_
  refine j_aload_n hx 0 dX11_init_161 rfl ?_
  obtain ⟨t43, et43, gt43⟩ := zB_get hB41 (k := 1) (u := 9) (by decide) (by decide)
  refine j_getf hx (zGK_push (zB_K hB41) hq42 ar_26_0) (gT_put hq42 (zB_a hB41) (by decide)) (by decide) rfl rfl rfl rfl inX11 1 (by decide) kf_RX11_19 rfl dX11_init_162 (v := .ref t43) (by rw [zZ_ne (fun e => (zB_q hB41 hq42).1 e.symm), et43]; exact zvr rfl) ?_
  refine j_callI hx (c_X5_init hst q42 t43) lk_RX11_75 [.ref t43] ⟨rfl, (zB_new hB41 hq42 ar_26_0).1, (zB_new hB41 hq42 ar_26_0).2.1, (zB_new hB41 hq42 ar_26_0).2.2, (gT_put hq42 gt43 (by decide))⟩ rfl rfl ⟨by decide, by decide⟩ ⟨by decide, by decide⟩ (k2 := 371) (n2 := 56111) rfl rfl (Nat.le_of_ble_eq_true rfl) dX11_init_165 (kV (fun G44 s44 hP44 => ?_))
  have hB44 := zB_obj hB41 hq42 hP44.1 hP44.2.1 hP44.2.2.1 hP44.2.2.2 (by decide)
  refine p32_12 hx (zB_K hB44) (zB_a hB44) kf_RX11_83 rfl rfl dX11_init_168 ?_
  refine j_ren (P := fun G9 s9 => zB G s0 a 12 [(12, 6, 0), (11, 6, 0), (10, 6, 0), (9, 5, 0), (8, 11, 0), (7, 3, 0), (6, 4, 0), (5, 2, 0), (4, 2, 0), (3, 8, 0), (2, 9, 0), (1, 9, 0), (0, 10, 0)] G9 s9) (zB_ref hB44 rw_12 (by decide) (by decide) hP44.2.1) (fun G45 s45 hB45 => ?_)
  refine j_pub hB45 (by decide +kernel) cl_12 ?_
  exact j_vret hx hq rfl (by decide) (by decide) dX11_init_171 ⟨rfl, zPub_OK hB45 (by decide +kernel) cl_12, pT_eq, zPub_Y hB45, zPub_c hB45 (by decide)⟩

