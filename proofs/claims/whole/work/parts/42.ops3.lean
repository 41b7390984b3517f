theorem op_classes (E : zEnv) {ad am : Nat → Nat} (x y w : Int32) : ∃ r : Int64, zRO E yX5_classes wsX5_classes 2 44 [.ref (ad 287), .int x, .int y, .int w] (fun _ => True) (some (.long r)) ∧ zRO E yX6_classes wsX6_classes 2 42 [.ref (am 0), .int x, .int y, .int w] (fun _ => True) (some (.long r)) := by
  rcases zsz_ca x with h_x | ⟨n, hn, rfl⟩
  · exact ⟨_, c_X5_classes_0 E h_x, c_X6_classes_0 E h_x⟩
  · rcases zin_ca y (lo := 1) (hi := 5) (by decide) (by decide) with h_y | ⟨k, k1, k2, rfl⟩
    · exact ⟨_, c_X5_classes_1 E hn h_y, c_X6_classes_1 E hn h_y⟩
    · rcases zin_ca w (lo := 0) (hi := 2) (by decide) (by decide) with h_w | ⟨l, l1, l2, rfl⟩
      · exact ⟨_, c_X5_classes_2 E hn ⟨k1, k2⟩ h_w, c_X6_classes_2 E hn ⟨k1, k2⟩ h_w⟩
      · have h6 := c_X6_classes_3 E (o := am 0) hn ⟨k1, k2⟩ l2
        rw [← zcl_e hn k2 l2] at h6
        exact ⟨_, c_X5_classes_3 E hn ⟨k1, k2⟩ l2, h6⟩
