/-! the bytes that are put are the same on both sides -/
theorem pb_core (v A B : Int64) (s : Nat) (hs : s ≤ 56) (hA : A.toBitVec = v.toBitVec >>> s) (hB : B.toBitVec = v.toBitVec.sshiftRight s) : A.toInt32 &&& 255 = B.toInt32 &&& 255 := by
  apply Int32.toBitVec_inj.1
  rw [Int32.toBitVec_and, Int32.toBitVec_and, Int64.toBitVec_toInt32, Int64.toBitVec_toInt32, hA, hB]
  apply BitVec.eq_of_getLsbD_eq
  intro i hi
  rw [BitVec.getLsbD_and, BitVec.getLsbD_and]
  by_cases c : i < 8
  · rw [BitVec.getLsbD_signExtend, BitVec.getLsbD_signExtend, if_pos (by omega), if_pos (by omega), BitVec.getLsbD_ushiftRight, BitVec.getLsbD_sshiftRight, if_pos (by omega)]
    have : decide (64 ≤ i) = false := decide_eq_false (by omega)
    rw [this]
    simp
  · have q : ∀ j : Fin 32, 8 ≤ j.val → (255 : Int32).toBitVec.getLsbD j.val = false := by decide
    rw [q ⟨i, hi⟩ (by show 8 ≤ i; omega), Bool.and_false, Bool.and_false]
theorem pb_eq (v : Int64) {k : Nat} (hk : k < 8) : pb v k = mpb v k := by
  unfold pb mpb
  rcases (show k = 0 ∨ k = 1 ∨ k = 2 ∨ k = 3 ∨ k = 4 ∨ k = 5 ∨ k = 6 ∨ k = 7 by omega) with rfl | rfl | rfl | rfl | rfl | rfl | rfl | rfl
  · exact pb_core v _ _ 0 (by decide) rfl rfl
  · exact pb_core v _ _ 8 (by decide) rfl rfl
  · exact pb_core v _ _ 16 (by decide) rfl rfl
  · exact pb_core v _ _ 24 (by decide) rfl rfl
  · exact pb_core v _ _ 32 (by decide) rfl rfl
  · exact pb_core v _ _ 40 (by decide) rfl rfl
  · exact pb_core v _ _ 48 (by decide) rfl rfl
  · exact pb_core v _ _ 56 (by decide) rfl rfl
