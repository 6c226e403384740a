/-! THE BEGINNING: class and model are side by side there -/
theorem KX_0 : KX s0 29 = fun _ _ => 0 := by
  funext r i
  unfold KX
  by_cases h0 : r = 0
  · rw [if_pos h0]
    split
    · exact congrFun (s0_o (by decide) (by decide)) _
    · rfl
  · rw [if_neg h0]
    (repeat' split) <;> first | rfl | exact congrFun (s0_o (by omega) (by omega)) _
theorem pX_0 (k : Nat) (h : 17 < k) : pX s0 k = fun _ => 0 := by
  funext i
  unfold pX
  (repeat' split) <;> first | rfl | exact congrFun (s0_o (by omega) (by omega)) _
theorem pM_0 : pM s0 0 = fun _ => 0 := by
  funext i
  exact congrFun (s0_o (by decide) (by decide)) _
theorem OKP_0 : OKP (fun _ => 0) := ⟨fun _ _ => Nat.zero_lt_succ 11, Nat.zero_lt_succ 31, fun _ _ => Nat.zero_le 9⟩
theorem PR_0 (n : Nat) : PR n 0 (fun _ => 0) (fun _ => 0) := ⟨⟨fun _ _ => rfl, fun _ _ _ => rfl⟩, OKP_0, OKP_0, fun _ _ _ => rfl, Nat.le_refl 0⟩
theorem sT_0 : sT s0 := by
  have z : ∀ k i, k ≠ 0 → k ≠ 17 → s0 k i = 0 := fun k i h0 h17 => congrFun (s0_o h0 h17) i
  have e1 : s0 0 17 = 0 := by decide
  refine ⟨by decide, by rw [e1]; decide, fun i _ => ?_, fun i _ => ?_, fun i _ => ?_⟩
  · rw [z 10 i (by decide) (by decide)]; decide
  · rw [z 18 i (by decide) (by decide)]; decide
  · rw [z 10 i (by decide) (by decide), z 18 i (by decide) (by decide)]
theorem sC_0 : sC s0 := by
  have z : ∀ k i, k ≠ 0 → k ≠ 17 → s0 k i = 0 := fun k i h0 h17 => congrFun (s0_o h0 h17) i
  have e2 : s0 17 2 = 29 := by decide
  have e3 : s0 17 3 = 37 := by decide
  unfold sC
  rw [e2, e3]
  unfold OKX
  rw [KX_0]
  refine ⟨⟨by decide +kernel, ⟨⟨Nat.zero_le _, Nat.zero_le _, Nat.zero_le _, fun i h => absurd h (Nat.not_lt_zero i), fun g h => absurd h (Nat.not_lt_zero g), fun c h => absurd h (Nat.not_lt_zero c)⟩, fun c h => absurd h (Nat.not_lt_zero c), fun g h hg => absurd hg (Nat.not_lt_zero g)⟩, fun cell _ => Or.inl ⟨z _ cell (by decide) (by decide), fun g hg => ?_⟩⟩, by decide +kernel, by decide, ⟨by decide, by decide, by decide, fun i h => absurd h (Nat.not_lt_zero i), fun g h => absurd h (Nat.not_lt_zero g), fun c h => absurd h (Nat.not_lt_zero c)⟩, by decide⟩
  rw [z 29 8 (by decide) (by decide)] at hg
  exact absurd hg (Nat.not_lt_zero g)
theorem sN_0 : sN 0 s0 := by
  unfold sN
  rw [pX_0 45 (by decide), pM_0, pX_0 48 (by decide)]
  exact ⟨PR_0 _, OKP_0⟩
theorem sA_0 : sA 0 s0 := by
  have e : s0 0 21 = 0 := by decide
  refine ⟨by decide, by decide, by decide, by decide, fun i hi => ?_⟩
  rw [e] at hi
  exact absurd hi (Nat.not_lt_zero i)
theorem sQ_0 : sQ 0 s0 := by
  have z : ∀ i, s0 15 i = 0 := fun i => congrFun (s0_o (by decide) (by decide)) i
  have e : s0 17 9 = 0 := by decide
  refine ⟨by decide, fun i => by rw [z i]; decide, fun s _ => ?_, fun s _ h => ?_⟩
  · rw [e, z s]
    simp
  · rw [z s] at h
    exact absurd h (by decide)
theorem sM_0 : sM s0 := by
  have e : s0 0 24 = 0 := by decide
  refine ⟨by decide, ⟨by decide, fun i hi => ?_⟩, fun i hi => ?_⟩ <;> (rw [e] at hi; exact absurd hi (Nat.not_lt_zero i))
theorem SIM_0 : SIM 0 s0 := ⟨sT_0, sC_0, sN_0, sA_0, sQ_0, sM_0, by decide, by decide⟩
