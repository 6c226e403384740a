/-! CALLS THAT CHANGE WHAT IS KEPT -/
section STEPS
variable {k : Nat} {σ u w : St}
theorem st_write (g : SIM k σ) (x : Nat) : (wrX σ x).1 = (wrM (wrX σ x).2 x).1 ∧ SIM (k + 1) (wrM (wrX σ x).2 x).2 := by
  obtain ⟨gt, gc, gn, ga, gq, gm, gs⟩ := g.mono (Nat.le_succ k)
  have b8 := (kd3' gc.1.1).2.2.2.2.2.2.2
  have d8 := (kd3' gc.2.1).2.2.2.2.2.2.2
  have hn := (sC_n gc).1
  have e1 := gt.1
  unfold wrX
  by_cases h1 : x ≤ 255
  · by_cases h2 : σ 17 1 = 48
    · rw [if_pos h1, if_pos h2]
      dsimp only
      unfold wrM
      rw [if_pos h1, if_pos (by omega)]
      exact ⟨rfl, g.mono (Nat.le_succ k)⟩
    · rw [if_pos h1, if_neg h2]
      dsimp only
      have e0 : pt (pt σ 18 (σ 17 1) x) 17 1 (σ 17 1 + 1) 0 17 = σ 17 1 := by rw [pt_o (by decide), pt_o (by decide)]; exact e1
      unfold wrM
      rw [e0, if_pos h1, if_neg h2]
      dsimp only
      refine ⟨rfl, ?_, sC_same gc (by (repeat first | rw [pt_o (by omega)] | rw [pt_ne (by omega)] | rw [stX_o (by omega) (by omega) (by omega)] | rw [stM_o (by omega)] | rw [cpy_o (by omega)] | rw [kpA_f (by omega) (by omega)] | rw [kpA_o (by omega) (by omega)] | rw [rmX_o (by omega) (by omega)])) (by (repeat first | rw [pt_o (by omega)] | rw [pt_ne (by omega)] | rw [stX_o (by omega) (by omega) (by omega)] | rw [stM_o (by omega)] | rw [cpy_o (by omega)] | rw [kpA_f (by omega) (by omega)] | rw [kpA_o (by omega) (by omega)] | rw [rmX_o (by omega) (by omega)])) (fun j h1 h2 => (by (repeat first | rw [pt_o (by omega)] | rw [pt_ne (by omega)] | rw [stX_o (by omega) (by omega) (by omega)] | rw [stM_o (by omega)] | rw [cpy_o (by omega)] | rw [kpA_f (by omega) (by omega)] | rw [kpA_o (by omega) (by omega)] | rw [rmX_o (by omega) (by omega)]))) (by (repeat first | rw [pt_o (by omega)] | rw [pt_ne (by omega)] | rw [stX_o (by omega) (by omega) (by omega)] | rw [stM_o (by omega)] | rw [cpy_o (by omega)] | rw [kpA_f (by omega) (by omega)] | rw [kpA_o (by omega) (by omega)] | rw [rmX_o (by omega) (by omega)])) (by (repeat first | rw [pt_o (by omega)] | rw [pt_ne (by omega)] | rw [stX_o (by omega) (by omega) (by omega)] | rw [stM_o (by omega)] | rw [cpy_o (by omega)] | rw [kpA_f (by omega) (by omega)] | rw [kpA_o (by omega) (by omega)] | rw [rmX_o (by omega) (by omega)])) (by (repeat first | rw [pt_o (by omega)] | rw [pt_ne (by omega)] | rw [stX_o (by omega) (by omega) (by omega)] | rw [stM_o (by omega)] | rw [cpy_o (by omega)] | rw [kpA_f (by omega) (by omega)] | rw [kpA_o (by omega) (by omega)] | rw [rmX_o (by omega) (by omega)])) (by (repeat first | rw [pt_o (by omega)] | rw [pt_ne (by omega)] | rw [stX_o (by omega) (by omega) (by omega)] | rw [stM_o (by omega)] | rw [cpy_o (by omega)] | rw [kpA_f (by omega) (by omega)] | rw [kpA_o (by omega) (by omega)] | rw [rmX_o (by omega) (by omega)])) (fun j h1 h2 => (by (repeat first | rw [pt_o (by omega)] | rw [pt_ne (by omega)] | rw [stX_o (by omega) (by omega) (by omega)] | rw [stM_o (by omega)] | rw [cpy_o (by omega)] | rw [kpA_f (by omega) (by omega)] | rw [kpA_o (by omega) (by omega)] | rw [rmX_o (by omega) (by omega)]))), sN_same gn hn (by (repeat first | rw [pt_o (by omega)] | rw [pt_ne (by omega)] | rw [stX_o (by omega) (by omega) (by omega)] | rw [stM_o (by omega)] | rw [cpy_o (by omega)] | rw [kpA_f (by omega) (by omega)] | rw [kpA_o (by omega) (by omega)] | rw [rmX_o (by omega) (by omega)])) (pX_same (by (repeat first | rw [pt_o (by omega)] | rw [pt_ne (by omega)] | rw [stX_o (by omega) (by omega) (by omega)] | rw [stM_o (by omega)] | rw [cpy_o (by omega)] | rw [kpA_f (by omega) (by omega)] | rw [kpA_o (by omega) (by omega)] | rw [rmX_o (by omega) (by omega)])) (by (repeat first | rw [pt_o (by omega)] | rw [pt_ne (by omega)] | rw [stX_o (by omega) (by omega) (by omega)] | rw [stM_o (by omega)] | rw [cpy_o (by omega)] | rw [kpA_f (by omega) (by omega)] | rw [kpA_o (by omega) (by omega)] | rw [rmX_o (by omega) (by omega)])) (by (repeat first | rw [pt_o (by omega)] | rw [pt_ne (by omega)] | rw [stX_o (by omega) (by omega) (by omega)] | rw [stM_o (by omega)] | rw [cpy_o (by omega)] | rw [kpA_f (by omega) (by omega)] | rw [kpA_o (by omega) (by omega)] | rw [rmX_o (by omega) (by omega)]))) (fun i hi => (by (repeat first | rw [pt_o (by omega)] | rw [pt_ne (by omega)] | rw [stX_o (by omega) (by omega) (by omega)] | rw [stM_o (by omega)] | rw [cpy_o (by omega)] | rw [kpA_f (by omega) (by omega)] | rw [kpA_o (by omega) (by omega)] | rw [rmX_o (by omega) (by omega)]))) (by rw [pX_same (k := 48) (σ := σ) (by (repeat first | rw [pt_o (by omega)] | rw [pt_ne (by omega)] | rw [stX_o (by omega) (by omega) (by omega)] | rw [stM_o (by omega)] | rw [cpy_o (by omega)] | rw [kpA_f (by omega) (by omega)] | rw [kpA_o (by omega) (by omega)] | rw [rmX_o (by omega) (by omega)])) (by (repeat first | rw [pt_o (by omega)] | rw [pt_ne (by omega)] | rw [stX_o (by omega) (by omega) (by omega)] | rw [stM_o (by omega)] | rw [cpy_o (by omega)] | rw [kpA_f (by omega) (by omega)] | rw [kpA_o (by omega) (by omega)] | rw [rmX_o (by omega) (by omega)])) (by (repeat first | rw [pt_o (by omega)] | rw [pt_ne (by omega)] | rw [stX_o (by omega) (by omega) (by omega)] | rw [stM_o (by omega)] | rw [cpy_o (by omega)] | rw [kpA_f (by omega) (by omega)] | rw [kpA_o (by omega) (by omega)] | rw [rmX_o (by omega) (by omega)]))]; exact gn.2), sA_same ga (by (repeat first | rw [pt_o (by omega)] | rw [pt_ne (by omega)] | rw [stX_o (by omega) (by omega) (by omega)] | rw [stM_o (by omega)] | rw [cpy_o (by omega)] | rw [kpA_f (by omega) (by omega)] | rw [kpA_o (by omega) (by omega)] | rw [rmX_o (by omega) (by omega)])) (by (repeat first | rw [pt_o (by omega)] | rw [pt_ne (by omega)] | rw [stX_o (by omega) (by omega) (by omega)] | rw [stM_o (by omega)] | rw [cpy_o (by omega)] | rw [kpA_f (by omega) (by omega)] | rw [kpA_o (by omega) (by omega)] | rw [rmX_o (by omega) (by omega)])) (by (repeat first | rw [pt_o (by omega)] | rw [pt_ne (by omega)] | rw [stX_o (by omega) (by omega) (by omega)] | rw [stM_o (by omega)] | rw [cpy_o (by omega)] | rw [kpA_f (by omega) (by omega)] | rw [kpA_o (by omega) (by omega)] | rw [rmX_o (by omega) (by omega)])) (by (repeat first | rw [pt_o (by omega)] | rw [pt_ne (by omega)] | rw [stX_o (by omega) (by omega) (by omega)] | rw [stM_o (by omega)] | rw [cpy_o (by omega)] | rw [kpA_f (by omega) (by omega)] | rw [kpA_o (by omega) (by omega)] | rw [rmX_o (by omega) (by omega)])) (by (repeat first | rw [pt_o (by omega)] | rw [pt_ne (by omega)] | rw [stX_o (by omega) (by omega) (by omega)] | rw [stM_o (by omega)] | rw [cpy_o (by omega)] | rw [kpA_f (by omega) (by omega)] | rw [kpA_o (by omega) (by omega)] | rw [rmX_o (by omega) (by omega)])) (fun j h => (by (repeat first | rw [pt_o (by omega)] | rw [pt_ne (by omega)] | rw [stX_o (by omega) (by omega) (by omega)] | rw [stM_o (by omega)] | rw [cpy_o (by omega)] | rw [kpA_f (by omega) (by omega)] | rw [kpA_o (by omega) (by omega)] | rw [rmX_o (by omega) (by omega)]))), sQ_same gq (by (repeat first | rw [pt_o (by omega)] | rw [pt_ne (by omega)] | rw [stX_o (by omega) (by omega) (by omega)] | rw [stM_o (by omega)] | rw [cpy_o (by omega)] | rw [kpA_f (by omega) (by omega)] | rw [kpA_o (by omega) (by omega)] | rw [rmX_o (by omega) (by omega)])) (by (repeat first | rw [pt_o (by omega)] | rw [pt_ne (by omega)] | rw [stX_o (by omega) (by omega) (by omega)] | rw [stM_o (by omega)] | rw [cpy_o (by omega)] | rw [kpA_f (by omega) (by omega)] | rw [kpA_o (by omega) (by omega)] | rw [rmX_o (by omega) (by omega)])) (by (repeat first | rw [pt_o (by omega)] | rw [pt_ne (by omega)] | rw [stX_o (by omega) (by omega) (by omega)] | rw [stM_o (by omega)] | rw [cpy_o (by omega)] | rw [kpA_f (by omega) (by omega)] | rw [kpA_o (by omega) (by omega)] | rw [rmX_o (by omega) (by omega)])) (by (repeat first | rw [pt_o (by omega)] | rw [pt_ne (by omega)] | rw [stX_o (by omega) (by omega) (by omega)] | rw [stM_o (by omega)] | rw [cpy_o (by omega)] | rw [kpA_f (by omega) (by omega)] | rw [kpA_o (by omega) (by omega)] | rw [rmX_o (by omega) (by omega)])) (fun j h1 h2 => (by (repeat first | rw [pt_o (by omega)] | rw [pt_ne (by omega)] | rw [stX_o (by omega) (by omega) (by omega)] | rw [stM_o (by omega)] | rw [cpy_o (by omega)] | rw [kpA_f (by omega) (by omega)] | rw [kpA_o (by omega) (by omega)] | rw [rmX_o (by omega) (by omega)]))), sM_same gm (by (repeat first | rw [pt_o (by omega)] | rw [pt_ne (by omega)] | rw [stX_o (by omega) (by omega) (by omega)] | rw [stM_o (by omega)] | rw [cpy_o (by omega)] | rw [kpA_f (by omega) (by omega)] | rw [kpA_o (by omega) (by omega)] | rw [rmX_o (by omega) (by omega)])) (by (repeat first | rw [pt_o (by omega)] | rw [pt_ne (by omega)] | rw [stX_o (by omega) (by omega) (by omega)] | rw [stM_o (by omega)] | rw [cpy_o (by omega)] | rw [kpA_f (by omega) (by omega)] | rw [kpA_o (by omega) (by omega)] | rw [rmX_o (by omega) (by omega)])) (by (repeat first | rw [pt_o (by omega)] | rw [pt_ne (by omega)] | rw [stX_o (by omega) (by omega) (by omega)] | rw [stM_o (by omega)] | rw [cpy_o (by omega)] | rw [kpA_f (by omega) (by omega)] | rw [kpA_o (by omega) (by omega)] | rw [rmX_o (by omega) (by omega)])) (by (repeat first | rw [pt_o (by omega)] | rw [pt_ne (by omega)] | rw [stX_o (by omega) (by omega) (by omega)] | rw [stM_o (by omega)] | rw [cpy_o (by omega)] | rw [kpA_f (by omega) (by omega)] | rw [kpA_o (by omega) (by omega)] | rw [rmX_o (by omega) (by omega)])) (by (repeat first | rw [pt_o (by omega)] | rw [pt_ne (by omega)] | rw [stX_o (by omega) (by omega) (by omega)] | rw [stM_o (by omega)] | rw [cpy_o (by omega)] | rw [kpA_f (by omega) (by omega)] | rw [kpA_o (by omega) (by omega)] | rw [rmX_o (by omega) (by omega)])) (by (repeat first | rw [pt_o (by omega)] | rw [pt_ne (by omega)] | rw [stX_o (by omega) (by omega) (by omega)] | rw [stM_o (by omega)] | rw [cpy_o (by omega)] | rw [kpA_f (by omega) (by omega)] | rw [kpA_o (by omega) (by omega)] | rw [rmX_o (by omega) (by omega)])) (by (repeat first | rw [pt_o (by omega)] | rw [pt_ne (by omega)] | rw [stX_o (by omega) (by omega) (by omega)] | rw [stM_o (by omega)] | rw [cpy_o (by omega)] | rw [kpA_f (by omega) (by omega)] | rw [kpA_o (by omega) (by omega)] | rw [rmX_o (by omega) (by omega)])) (by (repeat first | rw [pt_o (by omega)] | rw [pt_ne (by omega)] | rw [stX_o (by omega) (by omega) (by omega)] | rw [stM_o (by omega)] | rw [cpy_o (by omega)] | rw [kpA_f (by omega) (by omega)] | rw [kpA_o (by omega) (by omega)] | rw [rmX_o (by omega) (by omega)])), sS_same gs (by (repeat first | rw [pt_o (by omega)] | rw [pt_ne (by omega)] | rw [stX_o (by omega) (by omega) (by omega)] | rw [stM_o (by omega)] | rw [cpy_o (by omega)] | rw [kpA_f (by omega) (by omega)] | rw [kpA_o (by omega) (by omega)] | rw [rmX_o (by omega) (by omega)])) (by (repeat first | rw [pt_o (by omega)] | rw [pt_ne (by omega)] | rw [stX_o (by omega) (by omega) (by omega)] | rw [stM_o (by omega)] | rw [cpy_o (by omega)] | rw [kpA_f (by omega) (by omega)] | rw [kpA_o (by omega) (by omega)] | rw [rmX_o (by omega) (by omega)]))⟩
      obtain ⟨t1, t2, t3, t4, t5⟩ := gt
      unfold sT
      simp [pt]
      grind
  · rw [if_neg h1]
    dsimp only
    unfold wrM
    rw [if_neg h1]
    exact ⟨rfl, g.mono (Nat.le_succ k)⟩
theorem st_wipe (g : SIM k σ) : (wiX σ).1 = (wiM (wiX σ).2).1 ∧ SIM (k + 1) (wiM (wiX σ).2).2 := by
  obtain ⟨gt, gc, gn, ga, gq, gm, gs⟩ := g.mono (Nat.le_succ k)
  have b8 := (kd3' gc.1.1).2.2.2.2.2.2.2
  have d8 := (kd3' gc.2.1).2.2.2.2.2.2.2
  have hn := (sC_n gc).1
  have e1 := gt.1
  unfold wiX wiM
  dsimp only
  refine ⟨by rw [pt_o (by decide)]; exact e1.symm, ?_, sC_same gc (by (repeat first | rw [pt_o (by omega)] | rw [pt_ne (by omega)] | rw [stX_o (by omega) (by omega) (by omega)] | rw [stM_o (by omega)] | rw [cpy_o (by omega)] | rw [kpA_f (by omega) (by omega)] | rw [kpA_o (by omega) (by omega)] | rw [rmX_o (by omega) (by omega)])) (by (repeat first | rw [pt_o (by omega)] | rw [pt_ne (by omega)] | rw [stX_o (by omega) (by omega) (by omega)] | rw [stM_o (by omega)] | rw [cpy_o (by omega)] | rw [kpA_f (by omega) (by omega)] | rw [kpA_o (by omega) (by omega)] | rw [rmX_o (by omega) (by omega)])) (fun j h1 h2 => (by (repeat first | rw [pt_o (by omega)] | rw [pt_ne (by omega)] | rw [stX_o (by omega) (by omega) (by omega)] | rw [stM_o (by omega)] | rw [cpy_o (by omega)] | rw [kpA_f (by omega) (by omega)] | rw [kpA_o (by omega) (by omega)] | rw [rmX_o (by omega) (by omega)]))) (by (repeat first | rw [pt_o (by omega)] | rw [pt_ne (by omega)] | rw [stX_o (by omega) (by omega) (by omega)] | rw [stM_o (by omega)] | rw [cpy_o (by omega)] | rw [kpA_f (by omega) (by omega)] | rw [kpA_o (by omega) (by omega)] | rw [rmX_o (by omega) (by omega)])) (by (repeat first | rw [pt_o (by omega)] | rw [pt_ne (by omega)] | rw [stX_o (by omega) (by omega) (by omega)] | rw [stM_o (by omega)] | rw [cpy_o (by omega)] | rw [kpA_f (by omega) (by omega)] | rw [kpA_o (by omega) (by omega)] | rw [rmX_o (by omega) (by omega)])) (by (repeat first | rw [pt_o (by omega)] | rw [pt_ne (by omega)] | rw [stX_o (by omega) (by omega) (by omega)] | rw [stM_o (by omega)] | rw [cpy_o (by omega)] | rw [kpA_f (by omega) (by omega)] | rw [kpA_o (by omega) (by omega)] | rw [rmX_o (by omega) (by omega)])) (by (repeat first | rw [pt_o (by omega)] | rw [pt_ne (by omega)] | rw [stX_o (by omega) (by omega) (by omega)] | rw [stM_o (by omega)] | rw [cpy_o (by omega)] | rw [kpA_f (by omega) (by omega)] | rw [kpA_o (by omega) (by omega)] | rw [rmX_o (by omega) (by omega)])) (fun j h1 h2 => (by (repeat first | rw [pt_o (by omega)] | rw [pt_ne (by omega)] | rw [stX_o (by omega) (by omega) (by omega)] | rw [stM_o (by omega)] | rw [cpy_o (by omega)] | rw [kpA_f (by omega) (by omega)] | rw [kpA_o (by omega) (by omega)] | rw [rmX_o (by omega) (by omega)]))), sN_same gn hn (by (repeat first | rw [pt_o (by omega)] | rw [pt_ne (by omega)] | rw [stX_o (by omega) (by omega) (by omega)] | rw [stM_o (by omega)] | rw [cpy_o (by omega)] | rw [kpA_f (by omega) (by omega)] | rw [kpA_o (by omega) (by omega)] | rw [rmX_o (by omega) (by omega)])) (pX_same (by (repeat first | rw [pt_o (by omega)] | rw [pt_ne (by omega)] | rw [stX_o (by omega) (by omega) (by omega)] | rw [stM_o (by omega)] | rw [cpy_o (by omega)] | rw [kpA_f (by omega) (by omega)] | rw [kpA_o (by omega) (by omega)] | rw [rmX_o (by omega) (by omega)])) (by (repeat first | rw [pt_o (by omega)] | rw [pt_ne (by omega)] | rw [stX_o (by omega) (by omega) (by omega)] | rw [stM_o (by omega)] | rw [cpy_o (by omega)] | rw [kpA_f (by omega) (by omega)] | rw [kpA_o (by omega) (by omega)] | rw [rmX_o (by omega) (by omega)])) (by (repeat first | rw [pt_o (by omega)] | rw [pt_ne (by omega)] | rw [stX_o (by omega) (by omega) (by omega)] | rw [stM_o (by omega)] | rw [cpy_o (by omega)] | rw [kpA_f (by omega) (by omega)] | rw [kpA_o (by omega) (by omega)] | rw [rmX_o (by omega) (by omega)]))) (fun i hi => (by (repeat first | rw [pt_o (by omega)] | rw [pt_ne (by omega)] | rw [stX_o (by omega) (by omega) (by omega)] | rw [stM_o (by omega)] | rw [cpy_o (by omega)] | rw [kpA_f (by omega) (by omega)] | rw [kpA_o (by omega) (by omega)] | rw [rmX_o (by omega) (by omega)]))) (by rw [pX_same (k := 48) (σ := σ) (by (repeat first | rw [pt_o (by omega)] | rw [pt_ne (by omega)] | rw [stX_o (by omega) (by omega) (by omega)] | rw [stM_o (by omega)] | rw [cpy_o (by omega)] | rw [kpA_f (by omega) (by omega)] | rw [kpA_o (by omega) (by omega)] | rw [rmX_o (by omega) (by omega)])) (by (repeat first | rw [pt_o (by omega)] | rw [pt_ne (by omega)] | rw [stX_o (by omega) (by omega) (by omega)] | rw [stM_o (by omega)] | rw [cpy_o (by omega)] | rw [kpA_f (by omega) (by omega)] | rw [kpA_o (by omega) (by omega)] | rw [rmX_o (by omega) (by omega)])) (by (repeat first | rw [pt_o (by omega)] | rw [pt_ne (by omega)] | rw [stX_o (by omega) (by omega) (by omega)] | rw [stM_o (by omega)] | rw [cpy_o (by omega)] | rw [kpA_f (by omega) (by omega)] | rw [kpA_o (by omega) (by omega)] | rw [rmX_o (by omega) (by omega)]))]; exact gn.2), sA_same ga (by (repeat first | rw [pt_o (by omega)] | rw [pt_ne (by omega)] | rw [stX_o (by omega) (by omega) (by omega)] | rw [stM_o (by omega)] | rw [cpy_o (by omega)] | rw [kpA_f (by omega) (by omega)] | rw [kpA_o (by omega) (by omega)] | rw [rmX_o (by omega) (by omega)])) (by (repeat first | rw [pt_o (by omega)] | rw [pt_ne (by omega)] | rw [stX_o (by omega) (by omega) (by omega)] | rw [stM_o (by omega)] | rw [cpy_o (by omega)] | rw [kpA_f (by omega) (by omega)] | rw [kpA_o (by omega) (by omega)] | rw [rmX_o (by omega) (by omega)])) (by (repeat first | rw [pt_o (by omega)] | rw [pt_ne (by omega)] | rw [stX_o (by omega) (by omega) (by omega)] | rw [stM_o (by omega)] | rw [cpy_o (by omega)] | rw [kpA_f (by omega) (by omega)] | rw [kpA_o (by omega) (by omega)] | rw [rmX_o (by omega) (by omega)])) (by (repeat first | rw [pt_o (by omega)] | rw [pt_ne (by omega)] | rw [stX_o (by omega) (by omega) (by omega)] | rw [stM_o (by omega)] | rw [cpy_o (by omega)] | rw [kpA_f (by omega) (by omega)] | rw [kpA_o (by omega) (by omega)] | rw [rmX_o (by omega) (by omega)])) (by (repeat first | rw [pt_o (by omega)] | rw [pt_ne (by omega)] | rw [stX_o (by omega) (by omega) (by omega)] | rw [stM_o (by omega)] | rw [cpy_o (by omega)] | rw [kpA_f (by omega) (by omega)] | rw [kpA_o (by omega) (by omega)] | rw [rmX_o (by omega) (by omega)])) (fun j h => (by (repeat first | rw [pt_o (by omega)] | rw [pt_ne (by omega)] | rw [stX_o (by omega) (by omega) (by omega)] | rw [stM_o (by omega)] | rw [cpy_o (by omega)] | rw [kpA_f (by omega) (by omega)] | rw [kpA_o (by omega) (by omega)] | rw [rmX_o (by omega) (by omega)]))), sQ_same gq (by (repeat first | rw [pt_o (by omega)] | rw [pt_ne (by omega)] | rw [stX_o (by omega) (by omega) (by omega)] | rw [stM_o (by omega)] | rw [cpy_o (by omega)] | rw [kpA_f (by omega) (by omega)] | rw [kpA_o (by omega) (by omega)] | rw [rmX_o (by omega) (by omega)])) (by (repeat first | rw [pt_o (by omega)] | rw [pt_ne (by omega)] | rw [stX_o (by omega) (by omega) (by omega)] | rw [stM_o (by omega)] | rw [cpy_o (by omega)] | rw [kpA_f (by omega) (by omega)] | rw [kpA_o (by omega) (by omega)] | rw [rmX_o (by omega) (by omega)])) (by (repeat first | rw [pt_o (by omega)] | rw [pt_ne (by omega)] | rw [stX_o (by omega) (by omega) (by omega)] | rw [stM_o (by omega)] | rw [cpy_o (by omega)] | rw [kpA_f (by omega) (by omega)] | rw [kpA_o (by omega) (by omega)] | rw [rmX_o (by omega) (by omega)])) (by (repeat first | rw [pt_o (by omega)] | rw [pt_ne (by omega)] | rw [stX_o (by omega) (by omega) (by omega)] | rw [stM_o (by omega)] | rw [cpy_o (by omega)] | rw [kpA_f (by omega) (by omega)] | rw [kpA_o (by omega) (by omega)] | rw [rmX_o (by omega) (by omega)])) (fun j h1 h2 => (by (repeat first | rw [pt_o (by omega)] | rw [pt_ne (by omega)] | rw [stX_o (by omega) (by omega) (by omega)] | rw [stM_o (by omega)] | rw [cpy_o (by omega)] | rw [kpA_f (by omega) (by omega)] | rw [kpA_o (by omega) (by omega)] | rw [rmX_o (by omega) (by omega)]))), sM_same gm (by (repeat first | rw [pt_o (by omega)] | rw [pt_ne (by omega)] | rw [stX_o (by omega) (by omega) (by omega)] | rw [stM_o (by omega)] | rw [cpy_o (by omega)] | rw [kpA_f (by omega) (by omega)] | rw [kpA_o (by omega) (by omega)] | rw [rmX_o (by omega) (by omega)])) (by (repeat first | rw [pt_o (by omega)] | rw [pt_ne (by omega)] | rw [stX_o (by omega) (by omega) (by omega)] | rw [stM_o (by omega)] | rw [cpy_o (by omega)] | rw [kpA_f (by omega) (by omega)] | rw [kpA_o (by omega) (by omega)] | rw [rmX_o (by omega) (by omega)])) (by (repeat first | rw [pt_o (by omega)] | rw [pt_ne (by omega)] | rw [stX_o (by omega) (by omega) (by omega)] | rw [stM_o (by omega)] | rw [cpy_o (by omega)] | rw [kpA_f (by omega) (by omega)] | rw [kpA_o (by omega) (by omega)] | rw [rmX_o (by omega) (by omega)])) (by (repeat first | rw [pt_o (by omega)] | rw [pt_ne (by omega)] | rw [stX_o (by omega) (by omega) (by omega)] | rw [stM_o (by omega)] | rw [cpy_o (by omega)] | rw [kpA_f (by omega) (by omega)] | rw [kpA_o (by omega) (by omega)] | rw [rmX_o (by omega) (by omega)])) (by (repeat first | rw [pt_o (by omega)] | rw [pt_ne (by omega)] | rw [stX_o (by omega) (by omega) (by omega)] | rw [stM_o (by omega)] | rw [cpy_o (by omega)] | rw [kpA_f (by omega) (by omega)] | rw [kpA_o (by omega) (by omega)] | rw [rmX_o (by omega) (by omega)])) (by (repeat first | rw [pt_o (by omega)] | rw [pt_ne (by omega)] | rw [stX_o (by omega) (by omega) (by omega)] | rw [stM_o (by omega)] | rw [cpy_o (by omega)] | rw [kpA_f (by omega) (by omega)] | rw [kpA_o (by omega) (by omega)] | rw [rmX_o (by omega) (by omega)])) (by (repeat first | rw [pt_o (by omega)] | rw [pt_ne (by omega)] | rw [stX_o (by omega) (by omega) (by omega)] | rw [stM_o (by omega)] | rw [cpy_o (by omega)] | rw [kpA_f (by omega) (by omega)] | rw [kpA_o (by omega) (by omega)] | rw [rmX_o (by omega) (by omega)])) (by (repeat first | rw [pt_o (by omega)] | rw [pt_ne (by omega)] | rw [stX_o (by omega) (by omega) (by omega)] | rw [stM_o (by omega)] | rw [cpy_o (by omega)] | rw [kpA_f (by omega) (by omega)] | rw [kpA_o (by omega) (by omega)] | rw [rmX_o (by omega) (by omega)])), sS_same gs (by (repeat first | rw [pt_o (by omega)] | rw [pt_ne (by omega)] | rw [stX_o (by omega) (by omega) (by omega)] | rw [stM_o (by omega)] | rw [cpy_o (by omega)] | rw [kpA_f (by omega) (by omega)] | rw [kpA_o (by omega) (by omega)] | rw [rmX_o (by omega) (by omega)])) (by (repeat first | rw [pt_o (by omega)] | rw [pt_ne (by omega)] | rw [stX_o (by omega) (by omega) (by omega)] | rw [stM_o (by omega)] | rw [cpy_o (by omega)] | rw [kpA_f (by omega) (by omega)] | rw [kpA_o (by omega) (by omega)] | rw [rmX_o (by omega) (by omega)]))⟩
  obtain ⟨t1, t2, t3, t4, t5⟩ := gt
  unfold sT
  simp [pt]
  grind
theorem st_forget (g : SIM k σ) : (foX σ).1 = (foM (foX σ).2).1 ∧ SIM (k + 1) (foM (foX σ).2).2 := by
  obtain ⟨gt, gc, gn, ga, gq, gm, gs⟩ := g.mono (Nat.le_succ k)
  have b8 := (kd3' gc.1.1).2.2.2.2.2.2.2
  have d8 := (kd3' gc.2.1).2.2.2.2.2.2.2
  have hn := (sC_n gc).1
  have e1 := gm.1
  unfold foX foM
  dsimp only
  refine ⟨by rw [pt_o (by decide)]; exact e1, sT_same gt (by (repeat first | rw [pt_o (by omega)] | rw [pt_ne (by omega)] | rw [stX_o (by omega) (by omega) (by omega)] | rw [stM_o (by omega)] | rw [cpy_o (by omega)] | rw [kpA_f (by omega) (by omega)] | rw [kpA_o (by omega) (by omega)] | rw [rmX_o (by omega) (by omega)])) (by (repeat first | rw [pt_o (by omega)] | rw [pt_ne (by omega)] | rw [stX_o (by omega) (by omega) (by omega)] | rw [stM_o (by omega)] | rw [cpy_o (by omega)] | rw [kpA_f (by omega) (by omega)] | rw [kpA_o (by omega) (by omega)] | rw [rmX_o (by omega) (by omega)])) (by (repeat first | rw [pt_o (by omega)] | rw [pt_ne (by omega)] | rw [stX_o (by omega) (by omega) (by omega)] | rw [stM_o (by omega)] | rw [cpy_o (by omega)] | rw [kpA_f (by omega) (by omega)] | rw [kpA_o (by omega) (by omega)] | rw [rmX_o (by omega) (by omega)])) (by (repeat first | rw [pt_o (by omega)] | rw [pt_ne (by omega)] | rw [stX_o (by omega) (by omega) (by omega)] | rw [stM_o (by omega)] | rw [cpy_o (by omega)] | rw [kpA_f (by omega) (by omega)] | rw [kpA_o (by omega) (by omega)] | rw [rmX_o (by omega) (by omega)])), sC_same gc (by (repeat first | rw [pt_o (by omega)] | rw [pt_ne (by omega)] | rw [stX_o (by omega) (by omega) (by omega)] | rw [stM_o (by omega)] | rw [cpy_o (by omega)] | rw [kpA_f (by omega) (by omega)] | rw [kpA_o (by omega) (by omega)] | rw [rmX_o (by omega) (by omega)])) (by (repeat first | rw [pt_o (by omega)] | rw [pt_ne (by omega)] | rw [stX_o (by omega) (by omega) (by omega)] | rw [stM_o (by omega)] | rw [cpy_o (by omega)] | rw [kpA_f (by omega) (by omega)] | rw [kpA_o (by omega) (by omega)] | rw [rmX_o (by omega) (by omega)])) (fun j h1 h2 => (by (repeat first | rw [pt_o (by omega)] | rw [pt_ne (by omega)] | rw [stX_o (by omega) (by omega) (by omega)] | rw [stM_o (by omega)] | rw [cpy_o (by omega)] | rw [kpA_f (by omega) (by omega)] | rw [kpA_o (by omega) (by omega)] | rw [rmX_o (by omega) (by omega)]))) (by (repeat first | rw [pt_o (by omega)] | rw [pt_ne (by omega)] | rw [stX_o (by omega) (by omega) (by omega)] | rw [stM_o (by omega)] | rw [cpy_o (by omega)] | rw [kpA_f (by omega) (by omega)] | rw [kpA_o (by omega) (by omega)] | rw [rmX_o (by omega) (by omega)])) (by (repeat first | rw [pt_o (by omega)] | rw [pt_ne (by omega)] | rw [stX_o (by omega) (by omega) (by omega)] | rw [stM_o (by omega)] | rw [cpy_o (by omega)] | rw [kpA_f (by omega) (by omega)] | rw [kpA_o (by omega) (by omega)] | rw [rmX_o (by omega) (by omega)])) (by (repeat first | rw [pt_o (by omega)] | rw [pt_ne (by omega)] | rw [stX_o (by omega) (by omega) (by omega)] | rw [stM_o (by omega)] | rw [cpy_o (by omega)] | rw [kpA_f (by omega) (by omega)] | rw [kpA_o (by omega) (by omega)] | rw [rmX_o (by omega) (by omega)])) (by (repeat first | rw [pt_o (by omega)] | rw [pt_ne (by omega)] | rw [stX_o (by omega) (by omega) (by omega)] | rw [stM_o (by omega)] | rw [cpy_o (by omega)] | rw [kpA_f (by omega) (by omega)] | rw [kpA_o (by omega) (by omega)] | rw [rmX_o (by omega) (by omega)])) (fun j h1 h2 => (by (repeat first | rw [pt_o (by omega)] | rw [pt_ne (by omega)] | rw [stX_o (by omega) (by omega) (by omega)] | rw [stM_o (by omega)] | rw [cpy_o (by omega)] | rw [kpA_f (by omega) (by omega)] | rw [kpA_o (by omega) (by omega)] | rw [rmX_o (by omega) (by omega)]))), sN_same gn hn (by (repeat first | rw [pt_o (by omega)] | rw [pt_ne (by omega)] | rw [stX_o (by omega) (by omega) (by omega)] | rw [stM_o (by omega)] | rw [cpy_o (by omega)] | rw [kpA_f (by omega) (by omega)] | rw [kpA_o (by omega) (by omega)] | rw [rmX_o (by omega) (by omega)])) (pX_same (by (repeat first | rw [pt_o (by omega)] | rw [pt_ne (by omega)] | rw [stX_o (by omega) (by omega) (by omega)] | rw [stM_o (by omega)] | rw [cpy_o (by omega)] | rw [kpA_f (by omega) (by omega)] | rw [kpA_o (by omega) (by omega)] | rw [rmX_o (by omega) (by omega)])) (by (repeat first | rw [pt_o (by omega)] | rw [pt_ne (by omega)] | rw [stX_o (by omega) (by omega) (by omega)] | rw [stM_o (by omega)] | rw [cpy_o (by omega)] | rw [kpA_f (by omega) (by omega)] | rw [kpA_o (by omega) (by omega)] | rw [rmX_o (by omega) (by omega)])) (by (repeat first | rw [pt_o (by omega)] | rw [pt_ne (by omega)] | rw [stX_o (by omega) (by omega) (by omega)] | rw [stM_o (by omega)] | rw [cpy_o (by omega)] | rw [kpA_f (by omega) (by omega)] | rw [kpA_o (by omega) (by omega)] | rw [rmX_o (by omega) (by omega)]))) (fun i hi => (by (repeat first | rw [pt_o (by omega)] | rw [pt_ne (by omega)] | rw [stX_o (by omega) (by omega) (by omega)] | rw [stM_o (by omega)] | rw [cpy_o (by omega)] | rw [kpA_f (by omega) (by omega)] | rw [kpA_o (by omega) (by omega)] | rw [rmX_o (by omega) (by omega)]))) (by rw [pX_same (k := 48) (σ := σ) (by (repeat first | rw [pt_o (by omega)] | rw [pt_ne (by omega)] | rw [stX_o (by omega) (by omega) (by omega)] | rw [stM_o (by omega)] | rw [cpy_o (by omega)] | rw [kpA_f (by omega) (by omega)] | rw [kpA_o (by omega) (by omega)] | rw [rmX_o (by omega) (by omega)])) (by (repeat first | rw [pt_o (by omega)] | rw [pt_ne (by omega)] | rw [stX_o (by omega) (by omega) (by omega)] | rw [stM_o (by omega)] | rw [cpy_o (by omega)] | rw [kpA_f (by omega) (by omega)] | rw [kpA_o (by omega) (by omega)] | rw [rmX_o (by omega) (by omega)])) (by (repeat first | rw [pt_o (by omega)] | rw [pt_ne (by omega)] | rw [stX_o (by omega) (by omega) (by omega)] | rw [stM_o (by omega)] | rw [cpy_o (by omega)] | rw [kpA_f (by omega) (by omega)] | rw [kpA_o (by omega) (by omega)] | rw [rmX_o (by omega) (by omega)]))]; exact gn.2), sA_same ga (by (repeat first | rw [pt_o (by omega)] | rw [pt_ne (by omega)] | rw [stX_o (by omega) (by omega) (by omega)] | rw [stM_o (by omega)] | rw [cpy_o (by omega)] | rw [kpA_f (by omega) (by omega)] | rw [kpA_o (by omega) (by omega)] | rw [rmX_o (by omega) (by omega)])) (by (repeat first | rw [pt_o (by omega)] | rw [pt_ne (by omega)] | rw [stX_o (by omega) (by omega) (by omega)] | rw [stM_o (by omega)] | rw [cpy_o (by omega)] | rw [kpA_f (by omega) (by omega)] | rw [kpA_o (by omega) (by omega)] | rw [rmX_o (by omega) (by omega)])) (by (repeat first | rw [pt_o (by omega)] | rw [pt_ne (by omega)] | rw [stX_o (by omega) (by omega) (by omega)] | rw [stM_o (by omega)] | rw [cpy_o (by omega)] | rw [kpA_f (by omega) (by omega)] | rw [kpA_o (by omega) (by omega)] | rw [rmX_o (by omega) (by omega)])) (by (repeat first | rw [pt_o (by omega)] | rw [pt_ne (by omega)] | rw [stX_o (by omega) (by omega) (by omega)] | rw [stM_o (by omega)] | rw [cpy_o (by omega)] | rw [kpA_f (by omega) (by omega)] | rw [kpA_o (by omega) (by omega)] | rw [rmX_o (by omega) (by omega)])) (by (repeat first | rw [pt_o (by omega)] | rw [pt_ne (by omega)] | rw [stX_o (by omega) (by omega) (by omega)] | rw [stM_o (by omega)] | rw [cpy_o (by omega)] | rw [kpA_f (by omega) (by omega)] | rw [kpA_o (by omega) (by omega)] | rw [rmX_o (by omega) (by omega)])) (fun j h => (by (repeat first | rw [pt_o (by omega)] | rw [pt_ne (by omega)] | rw [stX_o (by omega) (by omega) (by omega)] | rw [stM_o (by omega)] | rw [cpy_o (by omega)] | rw [kpA_f (by omega) (by omega)] | rw [kpA_o (by omega) (by omega)] | rw [rmX_o (by omega) (by omega)]))), sQ_same gq (by (repeat first | rw [pt_o (by omega)] | rw [pt_ne (by omega)] | rw [stX_o (by omega) (by omega) (by omega)] | rw [stM_o (by omega)] | rw [cpy_o (by omega)] | rw [kpA_f (by omega) (by omega)] | rw [kpA_o (by omega) (by omega)] | rw [rmX_o (by omega) (by omega)])) (by (repeat first | rw [pt_o (by omega)] | rw [pt_ne (by omega)] | rw [stX_o (by omega) (by omega) (by omega)] | rw [stM_o (by omega)] | rw [cpy_o (by omega)] | rw [kpA_f (by omega) (by omega)] | rw [kpA_o (by omega) (by omega)] | rw [rmX_o (by omega) (by omega)])) (by (repeat first | rw [pt_o (by omega)] | rw [pt_ne (by omega)] | rw [stX_o (by omega) (by omega) (by omega)] | rw [stM_o (by omega)] | rw [cpy_o (by omega)] | rw [kpA_f (by omega) (by omega)] | rw [kpA_o (by omega) (by omega)] | rw [rmX_o (by omega) (by omega)])) (by (repeat first | rw [pt_o (by omega)] | rw [pt_ne (by omega)] | rw [stX_o (by omega) (by omega) (by omega)] | rw [stM_o (by omega)] | rw [cpy_o (by omega)] | rw [kpA_f (by omega) (by omega)] | rw [kpA_o (by omega) (by omega)] | rw [rmX_o (by omega) (by omega)])) (fun j h1 h2 => (by (repeat first | rw [pt_o (by omega)] | rw [pt_ne (by omega)] | rw [stX_o (by omega) (by omega) (by omega)] | rw [stM_o (by omega)] | rw [cpy_o (by omega)] | rw [kpA_f (by omega) (by omega)] | rw [kpA_o (by omega) (by omega)] | rw [rmX_o (by omega) (by omega)]))), ?_, sS_same gs (by (repeat first | rw [pt_o (by omega)] | rw [pt_ne (by omega)] | rw [stX_o (by omega) (by omega) (by omega)] | rw [stM_o (by omega)] | rw [cpy_o (by omega)] | rw [kpA_f (by omega) (by omega)] | rw [kpA_o (by omega) (by omega)] | rw [rmX_o (by omega) (by omega)])) (by (repeat first | rw [pt_o (by omega)] | rw [pt_ne (by omega)] | rw [stX_o (by omega) (by omega) (by omega)] | rw [stM_o (by omega)] | rw [cpy_o (by omega)] | rw [kpA_f (by omega) (by omega)] | rw [kpA_o (by omega) (by omega)] | rw [rmX_o (by omega) (by omega)]))⟩
  unfold sM OKW
  simp [pt]
theorem st_seed (g : SIM k σ) {v : Nat} (hv : v < 2 ^ 64) : σ 17 11 = pt σ 17 11 v 0 28 ∧ SIM (k + 1) (pt (pt σ 17 11 v) 0 28 v) := by
  obtain ⟨gt, gc, gn, ga, gq, gm, gs⟩ := g.mono (Nat.le_succ k)
  have b8 := (kd3' gc.1.1).2.2.2.2.2.2.2
  have d8 := (kd3' gc.2.1).2.2.2.2.2.2.2
  have hn := (sC_n gc).1
  refine ⟨by rw [pt_o (by decide)]; exact gs.1, sT_same gt (by (repeat first | rw [pt_o (by omega)] | rw [pt_ne (by omega)] | rw [stX_o (by omega) (by omega) (by omega)] | rw [stM_o (by omega)] | rw [cpy_o (by omega)] | rw [kpA_f (by omega) (by omega)] | rw [kpA_o (by omega) (by omega)] | rw [rmX_o (by omega) (by omega)])) (by (repeat first | rw [pt_o (by omega)] | rw [pt_ne (by omega)] | rw [stX_o (by omega) (by omega) (by omega)] | rw [stM_o (by omega)] | rw [cpy_o (by omega)] | rw [kpA_f (by omega) (by omega)] | rw [kpA_o (by omega) (by omega)] | rw [rmX_o (by omega) (by omega)])) (by (repeat first | rw [pt_o (by omega)] | rw [pt_ne (by omega)] | rw [stX_o (by omega) (by omega) (by omega)] | rw [stM_o (by omega)] | rw [cpy_o (by omega)] | rw [kpA_f (by omega) (by omega)] | rw [kpA_o (by omega) (by omega)] | rw [rmX_o (by omega) (by omega)])) (by (repeat first | rw [pt_o (by omega)] | rw [pt_ne (by omega)] | rw [stX_o (by omega) (by omega) (by omega)] | rw [stM_o (by omega)] | rw [cpy_o (by omega)] | rw [kpA_f (by omega) (by omega)] | rw [kpA_o (by omega) (by omega)] | rw [rmX_o (by omega) (by omega)])), sC_same gc (by (repeat first | rw [pt_o (by omega)] | rw [pt_ne (by omega)] | rw [stX_o (by omega) (by omega) (by omega)] | rw [stM_o (by omega)] | rw [cpy_o (by omega)] | rw [kpA_f (by omega) (by omega)] | rw [kpA_o (by omega) (by omega)] | rw [rmX_o (by omega) (by omega)])) (by (repeat first | rw [pt_o (by omega)] | rw [pt_ne (by omega)] | rw [stX_o (by omega) (by omega) (by omega)] | rw [stM_o (by omega)] | rw [cpy_o (by omega)] | rw [kpA_f (by omega) (by omega)] | rw [kpA_o (by omega) (by omega)] | rw [rmX_o (by omega) (by omega)])) (fun j h1 h2 => (by (repeat first | rw [pt_o (by omega)] | rw [pt_ne (by omega)] | rw [stX_o (by omega) (by omega) (by omega)] | rw [stM_o (by omega)] | rw [cpy_o (by omega)] | rw [kpA_f (by omega) (by omega)] | rw [kpA_o (by omega) (by omega)] | rw [rmX_o (by omega) (by omega)]))) (by (repeat first | rw [pt_o (by omega)] | rw [pt_ne (by omega)] | rw [stX_o (by omega) (by omega) (by omega)] | rw [stM_o (by omega)] | rw [cpy_o (by omega)] | rw [kpA_f (by omega) (by omega)] | rw [kpA_o (by omega) (by omega)] | rw [rmX_o (by omega) (by omega)])) (by (repeat first | rw [pt_o (by omega)] | rw [pt_ne (by omega)] | rw [stX_o (by omega) (by omega) (by omega)] | rw [stM_o (by omega)] | rw [cpy_o (by omega)] | rw [kpA_f (by omega) (by omega)] | rw [kpA_o (by omega) (by omega)] | rw [rmX_o (by omega) (by omega)])) (by (repeat first | rw [pt_o (by omega)] | rw [pt_ne (by omega)] | rw [stX_o (by omega) (by omega) (by omega)] | rw [stM_o (by omega)] | rw [cpy_o (by omega)] | rw [kpA_f (by omega) (by omega)] | rw [kpA_o (by omega) (by omega)] | rw [rmX_o (by omega) (by omega)])) (by (repeat first | rw [pt_o (by omega)] | rw [pt_ne (by omega)] | rw [stX_o (by omega) (by omega) (by omega)] | rw [stM_o (by omega)] | rw [cpy_o (by omega)] | rw [kpA_f (by omega) (by omega)] | rw [kpA_o (by omega) (by omega)] | rw [rmX_o (by omega) (by omega)])) (fun j h1 h2 => (by (repeat first | rw [pt_o (by omega)] | rw [pt_ne (by omega)] | rw [stX_o (by omega) (by omega) (by omega)] | rw [stM_o (by omega)] | rw [cpy_o (by omega)] | rw [kpA_f (by omega) (by omega)] | rw [kpA_o (by omega) (by omega)] | rw [rmX_o (by omega) (by omega)]))), sN_same gn hn (by (repeat first | rw [pt_o (by omega)] | rw [pt_ne (by omega)] | rw [stX_o (by omega) (by omega) (by omega)] | rw [stM_o (by omega)] | rw [cpy_o (by omega)] | rw [kpA_f (by omega) (by omega)] | rw [kpA_o (by omega) (by omega)] | rw [rmX_o (by omega) (by omega)])) (pX_same (by (repeat first | rw [pt_o (by omega)] | rw [pt_ne (by omega)] | rw [stX_o (by omega) (by omega) (by omega)] | rw [stM_o (by omega)] | rw [cpy_o (by omega)] | rw [kpA_f (by omega) (by omega)] | rw [kpA_o (by omega) (by omega)] | rw [rmX_o (by omega) (by omega)])) (by (repeat first | rw [pt_o (by omega)] | rw [pt_ne (by omega)] | rw [stX_o (by omega) (by omega) (by omega)] | rw [stM_o (by omega)] | rw [cpy_o (by omega)] | rw [kpA_f (by omega) (by omega)] | rw [kpA_o (by omega) (by omega)] | rw [rmX_o (by omega) (by omega)])) (by (repeat first | rw [pt_o (by omega)] | rw [pt_ne (by omega)] | rw [stX_o (by omega) (by omega) (by omega)] | rw [stM_o (by omega)] | rw [cpy_o (by omega)] | rw [kpA_f (by omega) (by omega)] | rw [kpA_o (by omega) (by omega)] | rw [rmX_o (by omega) (by omega)]))) (fun i hi => (by (repeat first | rw [pt_o (by omega)] | rw [pt_ne (by omega)] | rw [stX_o (by omega) (by omega) (by omega)] | rw [stM_o (by omega)] | rw [cpy_o (by omega)] | rw [kpA_f (by omega) (by omega)] | rw [kpA_o (by omega) (by omega)] | rw [rmX_o (by omega) (by omega)]))) (by rw [pX_same (k := 48) (σ := σ) (by (repeat first | rw [pt_o (by omega)] | rw [pt_ne (by omega)] | rw [stX_o (by omega) (by omega) (by omega)] | rw [stM_o (by omega)] | rw [cpy_o (by omega)] | rw [kpA_f (by omega) (by omega)] | rw [kpA_o (by omega) (by omega)] | rw [rmX_o (by omega) (by omega)])) (by (repeat first | rw [pt_o (by omega)] | rw [pt_ne (by omega)] | rw [stX_o (by omega) (by omega) (by omega)] | rw [stM_o (by omega)] | rw [cpy_o (by omega)] | rw [kpA_f (by omega) (by omega)] | rw [kpA_o (by omega) (by omega)] | rw [rmX_o (by omega) (by omega)])) (by (repeat first | rw [pt_o (by omega)] | rw [pt_ne (by omega)] | rw [stX_o (by omega) (by omega) (by omega)] | rw [stM_o (by omega)] | rw [cpy_o (by omega)] | rw [kpA_f (by omega) (by omega)] | rw [kpA_o (by omega) (by omega)] | rw [rmX_o (by omega) (by omega)]))]; exact gn.2), sA_same ga (by (repeat first | rw [pt_o (by omega)] | rw [pt_ne (by omega)] | rw [stX_o (by omega) (by omega) (by omega)] | rw [stM_o (by omega)] | rw [cpy_o (by omega)] | rw [kpA_f (by omega) (by omega)] | rw [kpA_o (by omega) (by omega)] | rw [rmX_o (by omega) (by omega)])) (by (repeat first | rw [pt_o (by omega)] | rw [pt_ne (by omega)] | rw [stX_o (by omega) (by omega) (by omega)] | rw [stM_o (by omega)] | rw [cpy_o (by omega)] | rw [kpA_f (by omega) (by omega)] | rw [kpA_o (by omega) (by omega)] | rw [rmX_o (by omega) (by omega)])) (by (repeat first | rw [pt_o (by omega)] | rw [pt_ne (by omega)] | rw [stX_o (by omega) (by omega) (by omega)] | rw [stM_o (by omega)] | rw [cpy_o (by omega)] | rw [kpA_f (by omega) (by omega)] | rw [kpA_o (by omega) (by omega)] | rw [rmX_o (by omega) (by omega)])) (by (repeat first | rw [pt_o (by omega)] | rw [pt_ne (by omega)] | rw [stX_o (by omega) (by omega) (by omega)] | rw [stM_o (by omega)] | rw [cpy_o (by omega)] | rw [kpA_f (by omega) (by omega)] | rw [kpA_o (by omega) (by omega)] | rw [rmX_o (by omega) (by omega)])) (by (repeat first | rw [pt_o (by omega)] | rw [pt_ne (by omega)] | rw [stX_o (by omega) (by omega) (by omega)] | rw [stM_o (by omega)] | rw [cpy_o (by omega)] | rw [kpA_f (by omega) (by omega)] | rw [kpA_o (by omega) (by omega)] | rw [rmX_o (by omega) (by omega)])) (fun j h => (by (repeat first | rw [pt_o (by omega)] | rw [pt_ne (by omega)] | rw [stX_o (by omega) (by omega) (by omega)] | rw [stM_o (by omega)] | rw [cpy_o (by omega)] | rw [kpA_f (by omega) (by omega)] | rw [kpA_o (by omega) (by omega)] | rw [rmX_o (by omega) (by omega)]))), sQ_same gq (by (repeat first | rw [pt_o (by omega)] | rw [pt_ne (by omega)] | rw [stX_o (by omega) (by omega) (by omega)] | rw [stM_o (by omega)] | rw [cpy_o (by omega)] | rw [kpA_f (by omega) (by omega)] | rw [kpA_o (by omega) (by omega)] | rw [rmX_o (by omega) (by omega)])) (by (repeat first | rw [pt_o (by omega)] | rw [pt_ne (by omega)] | rw [stX_o (by omega) (by omega) (by omega)] | rw [stM_o (by omega)] | rw [cpy_o (by omega)] | rw [kpA_f (by omega) (by omega)] | rw [kpA_o (by omega) (by omega)] | rw [rmX_o (by omega) (by omega)])) (by (repeat first | rw [pt_o (by omega)] | rw [pt_ne (by omega)] | rw [stX_o (by omega) (by omega) (by omega)] | rw [stM_o (by omega)] | rw [cpy_o (by omega)] | rw [kpA_f (by omega) (by omega)] | rw [kpA_o (by omega) (by omega)] | rw [rmX_o (by omega) (by omega)])) (by (repeat first | rw [pt_o (by omega)] | rw [pt_ne (by omega)] | rw [stX_o (by omega) (by omega) (by omega)] | rw [stM_o (by omega)] | rw [cpy_o (by omega)] | rw [kpA_f (by omega) (by omega)] | rw [kpA_o (by omega) (by omega)] | rw [rmX_o (by omega) (by omega)])) (fun j h1 h2 => (by (repeat first | rw [pt_o (by omega)] | rw [pt_ne (by omega)] | rw [stX_o (by omega) (by omega) (by omega)] | rw [stM_o (by omega)] | rw [cpy_o (by omega)] | rw [kpA_f (by omega) (by omega)] | rw [kpA_o (by omega) (by omega)] | rw [rmX_o (by omega) (by omega)]))), sM_same gm (by (repeat first | rw [pt_o (by omega)] | rw [pt_ne (by omega)] | rw [stX_o (by omega) (by omega) (by omega)] | rw [stM_o (by omega)] | rw [cpy_o (by omega)] | rw [kpA_f (by omega) (by omega)] | rw [kpA_o (by omega) (by omega)] | rw [rmX_o (by omega) (by omega)])) (by (repeat first | rw [pt_o (by omega)] | rw [pt_ne (by omega)] | rw [stX_o (by omega) (by omega) (by omega)] | rw [stM_o (by omega)] | rw [cpy_o (by omega)] | rw [kpA_f (by omega) (by omega)] | rw [kpA_o (by omega) (by omega)] | rw [rmX_o (by omega) (by omega)])) (by (repeat first | rw [pt_o (by omega)] | rw [pt_ne (by omega)] | rw [stX_o (by omega) (by omega) (by omega)] | rw [stM_o (by omega)] | rw [cpy_o (by omega)] | rw [kpA_f (by omega) (by omega)] | rw [kpA_o (by omega) (by omega)] | rw [rmX_o (by omega) (by omega)])) (by (repeat first | rw [pt_o (by omega)] | rw [pt_ne (by omega)] | rw [stX_o (by omega) (by omega) (by omega)] | rw [stM_o (by omega)] | rw [cpy_o (by omega)] | rw [kpA_f (by omega) (by omega)] | rw [kpA_o (by omega) (by omega)] | rw [rmX_o (by omega) (by omega)])) (by (repeat first | rw [pt_o (by omega)] | rw [pt_ne (by omega)] | rw [stX_o (by omega) (by omega) (by omega)] | rw [stM_o (by omega)] | rw [cpy_o (by omega)] | rw [kpA_f (by omega) (by omega)] | rw [kpA_o (by omega) (by omega)] | rw [rmX_o (by omega) (by omega)])) (by (repeat first | rw [pt_o (by omega)] | rw [pt_ne (by omega)] | rw [stX_o (by omega) (by omega) (by omega)] | rw [stM_o (by omega)] | rw [cpy_o (by omega)] | rw [kpA_f (by omega) (by omega)] | rw [kpA_o (by omega) (by omega)] | rw [rmX_o (by omega) (by omega)])) (by (repeat first | rw [pt_o (by omega)] | rw [pt_ne (by omega)] | rw [stX_o (by omega) (by omega) (by omega)] | rw [stM_o (by omega)] | rw [cpy_o (by omega)] | rw [kpA_f (by omega) (by omega)] | rw [kpA_o (by omega) (by omega)] | rw [rmX_o (by omega) (by omega)])) (by (repeat first | rw [pt_o (by omega)] | rw [pt_ne (by omega)] | rw [stX_o (by omega) (by omega) (by omega)] | rw [stM_o (by omega)] | rw [cpy_o (by omega)] | rw [kpA_f (by omega) (by omega)] | rw [kpA_o (by omega) (by omega)] | rw [rmX_o (by omega) (by omega)])), ?_⟩
  unfold sS
  simp [pt]
  exact hv
theorem st_knew (g : SIM k σ) (s n v : Nat) : (kwX σ s n v).1 = (kwM (kwX σ s n v).2 s n v).1 ∧ SIM (k + 1) (kwM (kwX σ s n v).2 s n v).2 := by
  obtain ⟨gt, gc, gn, ga, gq, gm, gs⟩ := g.mono (Nat.le_succ k)
  have b8 := (kd3' gc.1.1).2.2.2.2.2.2.2
  have d8 := (kd3' gc.2.1).2.2.2.2.2.2.2
  have hn := (sC_n gc).1
  have e1 := gm.1
  unfold kwX
  by_cases h1 : s < 5
  · by_cases h2 : n ≤ 9 ∧ v ≤ 9
    · by_cases h3 : σ 25 3 = 6
      · rw [if_pos h1, if_pos h2, if_pos h3]
        dsimp only
        unfold kwM
        rw [if_pos h1, if_pos h2, if_pos (by omega)]
        exact ⟨rfl, g.mono (Nat.le_succ k)⟩
      · rw [if_pos h1, if_pos h2, if_neg h3]
        dsimp only
        have e0 : pt (pt (pt (pt σ 26 (σ 25 3) s) 27 (σ 25 3) n) 28 (σ 25 3) v) 25 3 (σ 25 3 + 1) 0 24 = σ 25 3 := by rw [pt_o (by decide), pt_o (by decide), pt_o (by decide), pt_o (by decide)]; exact e1.symm
        unfold kwM
        rw [e0, if_pos h1, if_pos h2, if_neg h3]
        dsimp only
        refine ⟨rfl, sT_same gt (by (repeat first | rw [pt_o (by omega)] | rw [pt_ne (by omega)] | rw [stX_o (by omega) (by omega) (by omega)] | rw [stM_o (by omega)] | rw [cpy_o (by omega)] | rw [kpA_f (by omega) (by omega)] | rw [kpA_o (by omega) (by omega)] | rw [rmX_o (by omega) (by omega)])) (by (repeat first | rw [pt_o (by omega)] | rw [pt_ne (by omega)] | rw [stX_o (by omega) (by omega) (by omega)] | rw [stM_o (by omega)] | rw [cpy_o (by omega)] | rw [kpA_f (by omega) (by omega)] | rw [kpA_o (by omega) (by omega)] | rw [rmX_o (by omega) (by omega)])) (by (repeat first | rw [pt_o (by omega)] | rw [pt_ne (by omega)] | rw [stX_o (by omega) (by omega) (by omega)] | rw [stM_o (by omega)] | rw [cpy_o (by omega)] | rw [kpA_f (by omega) (by omega)] | rw [kpA_o (by omega) (by omega)] | rw [rmX_o (by omega) (by omega)])) (by (repeat first | rw [pt_o (by omega)] | rw [pt_ne (by omega)] | rw [stX_o (by omega) (by omega) (by omega)] | rw [stM_o (by omega)] | rw [cpy_o (by omega)] | rw [kpA_f (by omega) (by omega)] | rw [kpA_o (by omega) (by omega)] | rw [rmX_o (by omega) (by omega)])), sC_same gc (by (repeat first | rw [pt_o (by omega)] | rw [pt_ne (by omega)] | rw [stX_o (by omega) (by omega) (by omega)] | rw [stM_o (by omega)] | rw [cpy_o (by omega)] | rw [kpA_f (by omega) (by omega)] | rw [kpA_o (by omega) (by omega)] | rw [rmX_o (by omega) (by omega)])) (by (repeat first | rw [pt_o (by omega)] | rw [pt_ne (by omega)] | rw [stX_o (by omega) (by omega) (by omega)] | rw [stM_o (by omega)] | rw [cpy_o (by omega)] | rw [kpA_f (by omega) (by omega)] | rw [kpA_o (by omega) (by omega)] | rw [rmX_o (by omega) (by omega)])) (fun j h1 h2 => (by (repeat first | rw [pt_o (by omega)] | rw [pt_ne (by omega)] | rw [stX_o (by omega) (by omega) (by omega)] | rw [stM_o (by omega)] | rw [cpy_o (by omega)] | rw [kpA_f (by omega) (by omega)] | rw [kpA_o (by omega) (by omega)] | rw [rmX_o (by omega) (by omega)]))) (by (repeat first | rw [pt_o (by omega)] | rw [pt_ne (by omega)] | rw [stX_o (by omega) (by omega) (by omega)] | rw [stM_o (by omega)] | rw [cpy_o (by omega)] | rw [kpA_f (by omega) (by omega)] | rw [kpA_o (by omega) (by omega)] | rw [rmX_o (by omega) (by omega)])) (by (repeat first | rw [pt_o (by omega)] | rw [pt_ne (by omega)] | rw [stX_o (by omega) (by omega) (by omega)] | rw [stM_o (by omega)] | rw [cpy_o (by omega)] | rw [kpA_f (by omega) (by omega)] | rw [kpA_o (by omega) (by omega)] | rw [rmX_o (by omega) (by omega)])) (by (repeat first | rw [pt_o (by omega)] | rw [pt_ne (by omega)] | rw [stX_o (by omega) (by omega) (by omega)] | rw [stM_o (by omega)] | rw [cpy_o (by omega)] | rw [kpA_f (by omega) (by omega)] | rw [kpA_o (by omega) (by omega)] | rw [rmX_o (by omega) (by omega)])) (by (repeat first | rw [pt_o (by omega)] | rw [pt_ne (by omega)] | rw [stX_o (by omega) (by omega) (by omega)] | rw [stM_o (by omega)] | rw [cpy_o (by omega)] | rw [kpA_f (by omega) (by omega)] | rw [kpA_o (by omega) (by omega)] | rw [rmX_o (by omega) (by omega)])) (fun j h1 h2 => (by (repeat first | rw [pt_o (by omega)] | rw [pt_ne (by omega)] | rw [stX_o (by omega) (by omega) (by omega)] | rw [stM_o (by omega)] | rw [cpy_o (by omega)] | rw [kpA_f (by omega) (by omega)] | rw [kpA_o (by omega) (by omega)] | rw [rmX_o (by omega) (by omega)]))), sN_same gn hn (by (repeat first | rw [pt_o (by omega)] | rw [pt_ne (by omega)] | rw [stX_o (by omega) (by omega) (by omega)] | rw [stM_o (by omega)] | rw [cpy_o (by omega)] | rw [kpA_f (by omega) (by omega)] | rw [kpA_o (by omega) (by omega)] | rw [rmX_o (by omega) (by omega)])) (pX_same (by (repeat first | rw [pt_o (by omega)] | rw [pt_ne (by omega)] | rw [stX_o (by omega) (by omega) (by omega)] | rw [stM_o (by omega)] | rw [cpy_o (by omega)] | rw [kpA_f (by omega) (by omega)] | rw [kpA_o (by omega) (by omega)] | rw [rmX_o (by omega) (by omega)])) (by (repeat first | rw [pt_o (by omega)] | rw [pt_ne (by omega)] | rw [stX_o (by omega) (by omega) (by omega)] | rw [stM_o (by omega)] | rw [cpy_o (by omega)] | rw [kpA_f (by omega) (by omega)] | rw [kpA_o (by omega) (by omega)] | rw [rmX_o (by omega) (by omega)])) (by (repeat first | rw [pt_o (by omega)] | rw [pt_ne (by omega)] | rw [stX_o (by omega) (by omega) (by omega)] | rw [stM_o (by omega)] | rw [cpy_o (by omega)] | rw [kpA_f (by omega) (by omega)] | rw [kpA_o (by omega) (by omega)] | rw [rmX_o (by omega) (by omega)]))) (fun i hi => (by (repeat first | rw [pt_o (by omega)] | rw [pt_ne (by omega)] | rw [stX_o (by omega) (by omega) (by omega)] | rw [stM_o (by omega)] | rw [cpy_o (by omega)] | rw [kpA_f (by omega) (by omega)] | rw [kpA_o (by omega) (by omega)] | rw [rmX_o (by omega) (by omega)]))) (by rw [pX_same (k := 48) (σ := σ) (by (repeat first | rw [pt_o (by omega)] | rw [pt_ne (by omega)] | rw [stX_o (by omega) (by omega) (by omega)] | rw [stM_o (by omega)] | rw [cpy_o (by omega)] | rw [kpA_f (by omega) (by omega)] | rw [kpA_o (by omega) (by omega)] | rw [rmX_o (by omega) (by omega)])) (by (repeat first | rw [pt_o (by omega)] | rw [pt_ne (by omega)] | rw [stX_o (by omega) (by omega) (by omega)] | rw [stM_o (by omega)] | rw [cpy_o (by omega)] | rw [kpA_f (by omega) (by omega)] | rw [kpA_o (by omega) (by omega)] | rw [rmX_o (by omega) (by omega)])) (by (repeat first | rw [pt_o (by omega)] | rw [pt_ne (by omega)] | rw [stX_o (by omega) (by omega) (by omega)] | rw [stM_o (by omega)] | rw [cpy_o (by omega)] | rw [kpA_f (by omega) (by omega)] | rw [kpA_o (by omega) (by omega)] | rw [rmX_o (by omega) (by omega)]))]; exact gn.2), sA_same ga (by (repeat first | rw [pt_o (by omega)] | rw [pt_ne (by omega)] | rw [stX_o (by omega) (by omega) (by omega)] | rw [stM_o (by omega)] | rw [cpy_o (by omega)] | rw [kpA_f (by omega) (by omega)] | rw [kpA_o (by omega) (by omega)] | rw [rmX_o (by omega) (by omega)])) (by (repeat first | rw [pt_o (by omega)] | rw [pt_ne (by omega)] | rw [stX_o (by omega) (by omega) (by omega)] | rw [stM_o (by omega)] | rw [cpy_o (by omega)] | rw [kpA_f (by omega) (by omega)] | rw [kpA_o (by omega) (by omega)] | rw [rmX_o (by omega) (by omega)])) (by (repeat first | rw [pt_o (by omega)] | rw [pt_ne (by omega)] | rw [stX_o (by omega) (by omega) (by omega)] | rw [stM_o (by omega)] | rw [cpy_o (by omega)] | rw [kpA_f (by omega) (by omega)] | rw [kpA_o (by omega) (by omega)] | rw [rmX_o (by omega) (by omega)])) (by (repeat first | rw [pt_o (by omega)] | rw [pt_ne (by omega)] | rw [stX_o (by omega) (by omega) (by omega)] | rw [stM_o (by omega)] | rw [cpy_o (by omega)] | rw [kpA_f (by omega) (by omega)] | rw [kpA_o (by omega) (by omega)] | rw [rmX_o (by omega) (by omega)])) (by (repeat first | rw [pt_o (by omega)] | rw [pt_ne (by omega)] | rw [stX_o (by omega) (by omega) (by omega)] | rw [stM_o (by omega)] | rw [cpy_o (by omega)] | rw [kpA_f (by omega) (by omega)] | rw [kpA_o (by omega) (by omega)] | rw [rmX_o (by omega) (by omega)])) (fun j h => (by (repeat first | rw [pt_o (by omega)] | rw [pt_ne (by omega)] | rw [stX_o (by omega) (by omega) (by omega)] | rw [stM_o (by omega)] | rw [cpy_o (by omega)] | rw [kpA_f (by omega) (by omega)] | rw [kpA_o (by omega) (by omega)] | rw [rmX_o (by omega) (by omega)]))), sQ_same gq (by (repeat first | rw [pt_o (by omega)] | rw [pt_ne (by omega)] | rw [stX_o (by omega) (by omega) (by omega)] | rw [stM_o (by omega)] | rw [cpy_o (by omega)] | rw [kpA_f (by omega) (by omega)] | rw [kpA_o (by omega) (by omega)] | rw [rmX_o (by omega) (by omega)])) (by (repeat first | rw [pt_o (by omega)] | rw [pt_ne (by omega)] | rw [stX_o (by omega) (by omega) (by omega)] | rw [stM_o (by omega)] | rw [cpy_o (by omega)] | rw [kpA_f (by omega) (by omega)] | rw [kpA_o (by omega) (by omega)] | rw [rmX_o (by omega) (by omega)])) (by (repeat first | rw [pt_o (by omega)] | rw [pt_ne (by omega)] | rw [stX_o (by omega) (by omega) (by omega)] | rw [stM_o (by omega)] | rw [cpy_o (by omega)] | rw [kpA_f (by omega) (by omega)] | rw [kpA_o (by omega) (by omega)] | rw [rmX_o (by omega) (by omega)])) (by (repeat first | rw [pt_o (by omega)] | rw [pt_ne (by omega)] | rw [stX_o (by omega) (by omega) (by omega)] | rw [stM_o (by omega)] | rw [cpy_o (by omega)] | rw [kpA_f (by omega) (by omega)] | rw [kpA_o (by omega) (by omega)] | rw [rmX_o (by omega) (by omega)])) (fun j h1 h2 => (by (repeat first | rw [pt_o (by omega)] | rw [pt_ne (by omega)] | rw [stX_o (by omega) (by omega) (by omega)] | rw [stM_o (by omega)] | rw [cpy_o (by omega)] | rw [kpA_f (by omega) (by omega)] | rw [kpA_o (by omega) (by omega)] | rw [rmX_o (by omega) (by omega)]))), ?_, sS_same gs (by (repeat first | rw [pt_o (by omega)] | rw [pt_ne (by omega)] | rw [stX_o (by omega) (by omega) (by omega)] | rw [stM_o (by omega)] | rw [cpy_o (by omega)] | rw [kpA_f (by omega) (by omega)] | rw [kpA_o (by omega) (by omega)] | rw [rmX_o (by omega) (by omega)])) (by (repeat first | rw [pt_o (by omega)] | rw [pt_ne (by omega)] | rw [stX_o (by omega) (by omega) (by omega)] | rw [stM_o (by omega)] | rw [cpy_o (by omega)] | rw [kpA_f (by omega) (by omega)] | rw [kpA_o (by omega) (by omega)] | rw [rmX_o (by omega) (by omega)]))⟩
        obtain ⟨m1, ⟨m2, m3⟩, m4⟩ := gm
        unfold sM OKW
        simp [pt]
        grind
    · rw [if_pos h1, if_neg h2]
      dsimp only
      unfold kwM
      rw [if_pos h1, if_neg h2]
      exact ⟨rfl, g.mono (Nat.le_succ k)⟩
  · rw [if_neg h1]
    dsimp only
    unfold kwM
    rw [if_neg h1]
    exact ⟨rfl, g.mono (Nat.le_succ k)⟩
theorem rs_cong {tx tx' : Nat → Nat} : ∀ (n d i : Nat) (K : St), (∀ j, i ≤ j → j < i + n → tx j = tx' j) → rs tx n d i K = rs tx' n d i K
  | 0, _, _, _, _ => rfl
  | n + 1, d, i, K, h => by
    cases e : stp d (tx i) K with
    | none => rw [rs_none e, rs_none (by rw [← h i (by omega) (by omega)]; exact e)]
    | some q =>
      obtain ⟨d', K'⟩ := q
      rw [rs_some e, rs_some (tx := tx') (by rw [← h i (by omega) (by omega)]; exact e)]
      exact rs_cong n d' (i + 1) K' (fun j h1 h2 => h j (by omega) (by omega))
theorem rd_eq (g : sT σ) (h0 : u 0 17 = σ 0 17) (h10 : u 10 = σ 10) : rdX σ = rdR u := by
  unfold rdX rdR
  rw [h0, h10, ← g.1]
  exact rs_cong _ _ _ _ (fun j _ h => g.2.2.2.2 j (by omega))
theorem SIM_f (g : SIM k σ) (hS : SB (σ 17 3) σ u) (hA : AG u w) : SIM (k + 1) w := by
  obtain ⟨gt, gc, gn, ga, gq, gm, gs⟩ := g.mono (Nat.le_succ k)
  have b8 := (kd3' gc.1.1).2.2.2.2.2.2.2
  have d8 := (kd3' gc.2.1).2.2.2.2.2.2.2
  have hn := (sC_n gc).1
  have c3 := gc.2.2.1
  have e : ∀ j, j ≠ 0 → j ≠ 7 → j ≠ 8 → j ≠ 9 → (j < σ 17 3 ∨ σ 17 3 + 8 ≤ j) → w j = σ j := fun j h1 h2 h3 h4 h5 => funext fun i => by rw [hA j i h2 h3 h4 (Or.inl h1), hS j h5]
  have e0 : ∀ i, i ≠ 12 → i ≠ 13 → i ≠ 14 → i ≠ 15 → i ≠ 18 → i ≠ 19 → w 0 i = σ 0 i := fun i h1 h2 h3 h4 h5 h6 => by rw [hA 0 i (by decide) (by decide) (by decide) (Or.inr ⟨h1, h2, h3, h4, h5, h6⟩), hS 0 (by omega)]
  have z : ∀ i, (i = 0 ∨ i = 1 ∨ i = 2 ∨ i = 17 ∨ i = 20 ∨ i = 21 ∨ i = 22 ∨ i = 24 ∨ i = 28) → w 0 i = σ 0 i := fun i h => e0 i (by omega) (by omega) (by omega) (by omega) (by omega) (by omega)
  have y : ∀ j, j ≠ 0 → j ≠ 7 → j ≠ 8 → j ≠ 9 → (j < 29 ∨ 45 ≤ j) → w j = σ j := fun j h1 h2 h3 h4 h5 => e j h1 h2 h3 h4 (by omega)
  refine ⟨sT_same gt (z 17 (by decide)) (y 10 (by decide) (by decide) (by decide) (by decide) (by decide)) (by rw [y 17 (by decide) (by decide) (by decide) (by decide) (by decide)]) (y 18 (by decide) (by decide) (by decide) (by decide) (by decide)),
   sC_same gc (by rw [y 17 (by decide) (by decide) (by decide) (by decide) (by decide)]) (by rw [y 17 (by decide) (by decide) (by decide) (by decide) (by decide)]) (fun j h1 h2 => e j (by omega) (by omega) (by omega) (by omega) (by omega)) (z 0 (by decide)) (z 1 (by decide)) (z 2 (by decide)) (z 20 (by decide)) (fun j h1 h2 => y j (by omega) (by omega) (by omega) (by omega) (by omega)),
   sN_same gn hn (z 2 (by decide)) (pX_same (y _ (by decide) (by decide) (by decide) (by decide) (by decide)) (y _ (by decide) (by decide) (by decide) (by decide) (by decide)) (y _ (by decide) (by decide) (by decide) (by decide) (by decide))) (fun i hi => by rw [y 6 (by decide) (by decide) (by decide) (by decide) (by decide)]) (by rw [pX_same (k := 48) (σ := σ) (y _ (by decide) (by decide) (by decide) (by decide) (by decide)) (y _ (by decide) (by decide) (by decide) (by decide) (by decide)) (y _ (by decide) (by decide) (by decide) (by decide) (by decide))]; exact gn.2),
   sA_same ga (z 2 (by decide)) (z 21 (by decide)) (z 22 (by decide)) (y 23 (by decide) (by decide) (by decide) (by decide) (by decide)) (y 11 (by decide) (by decide) (by decide) (by decide) (by decide)) (fun j h => y j (by omega) (by omega) (by omega) (by omega) (by omega)),
   sQ_same gq (z 2 (by decide)) (by rw [y 17 (by decide) (by decide) (by decide) (by decide) (by decide)]) (y 15 (by decide) (by decide) (by decide) (by decide) (by decide)) (y 16 (by decide) (by decide) (by decide) (by decide) (by decide)) (fun j h1 h2 => y j (by omega) (by omega) (by omega) (by omega) (by omega)),
   sM_same gm (z 24 (by decide)) (by rw [y 25 (by decide) (by decide) (by decide) (by decide) (by decide)]) (y 12 (by decide) (by decide) (by decide) (by decide) (by decide)) (y 13 (by decide) (by decide) (by decide) (by decide) (by decide)) (y 14 (by decide) (by decide) (by decide) (by decide) (by decide)) (y 26 (by decide) (by decide) (by decide) (by decide) (by decide)) (y 27 (by decide) (by decide) (by decide) (by decide) (by decide)) (y 28 (by decide) (by decide) (by decide) (by decide) (by decide)),
   sS_same gs (by rw [y 17 (by decide) (by decide) (by decide) (by decide) (by decide)]) (z 28 (by decide))⟩
/-! acts: how all was is kept -/
theorem kpA_11 (u : St) (i : Nat) : kpA u 11 i = if 32 * u 0 22 ≤ i ∧ i < 32 * u 0 22 + 32 then u 6 (i - 32 * u 0 22) else u 11 i := by
  unfold kpA
  rw [pt_o (by decide), pt_o (by decide)]
  unfold cpy
  by_cases h : 32 * u 0 22 ≤ i ∧ i < 32 * u 0 22 + 32
  · rw [if_pos ⟨rfl, h⟩, if_pos h, Nat.zero_add]
  · rw [if_neg (fun q => h q.2), if_neg h]
theorem kpA_21 (u : St) : kpA u 0 21 = if u 0 21 < 14 then u 0 21 + 1 else 14 := by
  unfold kpA
  rw [pt_at]
theorem kpA_22 (u : St) : kpA u 0 22 = (u 0 22 + 1) % 14 := by
  unfold kpA
  rw [pt_ne (by decide), pt_at]
theorem SIM_act (g : SIM k σ) (hu : ∀ j, j ≠ 45 → j ≠ 46 → j ≠ 47 → u j = rmX σ 45 j) (hw : ∀ j, j ≠ 6 → w j = kpA u j) (hN : PR (σ 0 2) (k + 1) (pX u 45) (fun i => w 6 i)) : SIM (k + 1) w := by
  obtain ⟨gt, gc, gn, ga, gq, gm, gs⟩ := g.mono (Nat.le_succ k)
  have b8 := (kd3' gc.1.1).2.2.2.2.2.2.2
  have d8 := (kd3' gc.2.1).2.2.2.2.2.2.2
  have hn := (sC_n gc).1
  obtain ⟨a1, a2, a3, a4, a5⟩ := ga
  have r : ∀ j, j ≠ 23 → j < 60 → j ≠ 45 → j ≠ 46 → j ≠ 47 → u j = σ j := fun j h1 h2 h3 h4 h5 => by rw [hu j h3 h4 h5, rmX_o h1 h2]
  have u0 : u 0 = σ 0 := r 0 (by decide) (by decide) (by decide) (by decide) (by decide)
  have e : ∀ j, j ≠ 6 → j ≠ 0 → j ≠ 11 → j ≠ 23 → j < 60 → j ≠ 45 → j ≠ 46 → j ≠ 47 → w j = σ j := fun j h0 h1 h2 h3 h4 h5 h6 h7 => by rw [hw j h0, kpA_f h2 h1, r j h3 h4 h5 h6 h7]
  have e0 : ∀ i, i ≠ 21 → i ≠ 22 → w 0 i = σ 0 i := fun i h1 h2 => by rw [hw 0 (by decide), kpA_o (by decide) (Or.inr ⟨h1, h2⟩), u0]
  have y : ∀ j, j ≠ 6 → j ≠ 0 → j ≠ 11 → j ≠ 23 → (j < 45 ∨ (48 ≤ j ∧ j < 60)) → w j = σ j := fun j h0 h1 h2 h3 h4 => e j h0 h1 h2 h3 (by omega) (by omega) (by omega) (by omega)
  have big : ∀ j, 60 ≤ j → w j = rmX σ 45 j := fun j h => by rw [hw j (by omega), kpA_f (by omega) (by omega), hu j (by omega) (by omega) (by omega)]
  have w21 : w 0 21 = if σ 0 21 < 14 then σ 0 21 + 1 else 14 := by rw [hw 0 (by decide), kpA_21, u0]
  have w22 : w 0 22 = (σ 0 22 + 1) % 14 := by rw [hw 0 (by decide), kpA_22, u0]
  have w23 : w 23 = rmX σ 45 23 := by rw [hw 23 (by decide), kpA_f (by decide) (by decide), hu 23 (by decide) (by decide) (by decide)]
  have w45 : pX w 45 = pX u 45 := pX_same (by rw [hw _ (by decide), kpA_f (by decide) (by decide)]) (by rw [hw _ (by decide), kpA_f (by decide) (by decide)]) (by rw [hw _ (by decide), kpA_f (by decide) (by decide)])
  have w11 : ∀ i, w 11 i = if 32 * σ 0 22 ≤ i ∧ i < 32 * σ 0 22 + 32 then σ 6 (i - 32 * σ 0 22) else σ 11 i := fun i => by
    rw [hw 11 (by decide), kpA_11, u0, r 6 (by decide) (by decide) (by decide) (by decide) (by decide), r 11 (by decide) (by decide) (by decide) (by decide) (by decide)]
  have rn : pX (rmX σ 45) (60 + 3 * σ 0 22) = pX σ 45 := by
    have : pX (rmX σ 45) (60 + 3 * σ 0 22) = pX (stX σ (60 + 3 * σ 23 1) (pX σ 45)) (60 + 3 * σ 23 1) := by
      rw [a1]
      unfold rmX
      rw [a1]
      exact pX_same (by rw [pt_o (by omega), pt_o (by omega)]) (by rw [pt_o (by omega), pt_o (by omega)]) (by rw [pt_o (by omega), pt_o (by omega)])
    rw [this, pX_stX _ _ (Z_pX σ 45)]
  have ro : ∀ q, q < 14 → q ≠ σ 0 22 → pX (rmX σ 45) (60 + 3 * q) = pX σ (60 + 3 * q) := fun q h1 h2 => by
    unfold rmX
    rw [a1]
    exact pX_same (by rw [pt_o (by omega), pt_o (by omega), stX_o (by omega) (by omega) (by omega)]) (by rw [pt_o (by omega), pt_o (by omega), stX_o (by omega) (by omega) (by omega)]) (by rw [pt_o (by omega), pt_o (by omega), stX_o (by omega) (by omega) (by omega)])
  refine ⟨sT_same gt (e0 17 (by decide) (by decide)) (y 10 (by decide) (by decide) (by decide) (by decide) (by decide)) (by rw [y 17 (by decide) (by decide) (by decide) (by decide) (by decide)]) (y 18 (by decide) (by decide) (by decide) (by decide) (by decide)),
   sC_same gc (by rw [y 17 (by decide) (by decide) (by decide) (by decide) (by decide)]) (by rw [y 17 (by decide) (by decide) (by decide) (by decide) (by decide)]) (fun j h1 h2 => y j (by omega) (by omega) (by omega) (by omega) (by omega)) (e0 0 (by decide) (by decide)) (e0 1 (by decide) (by decide)) (e0 2 (by decide) (by decide)) (e0 20 (by decide) (by decide)) (fun j h1 h2 => y j (by omega) (by omega) (by omega) (by omega) (by omega)),
   ⟨?_, ?_⟩, ⟨?_, ?_, ?_, ?_, fun i hi => ?_⟩,
   sQ_same gq (e0 2 (by decide) (by decide)) (by rw [y 17 (by decide) (by decide) (by decide) (by decide) (by decide)]) (y 15 (by decide) (by decide) (by decide) (by decide) (by decide)) (y 16 (by decide) (by decide) (by decide) (by decide) (by decide)) (fun j h1 h2 => y j (by omega) (by omega) (by omega) (by omega) (by omega)),
   sM_same gm (e0 24 (by decide) (by decide)) (by rw [y 25 (by decide) (by decide) (by decide) (by decide) (by decide)]) (y 12 (by decide) (by decide) (by decide) (by decide) (by decide)) (y 13 (by decide) (by decide) (by decide) (by decide) (by decide)) (y 14 (by decide) (by decide) (by decide) (by decide) (by decide)) (y 26 (by decide) (by decide) (by decide) (by decide) (by decide)) (y 27 (by decide) (by decide) (by decide) (by decide) (by decide)) (y 28 (by decide) (by decide) (by decide) (by decide) (by decide)),
   sS_same gs (by rw [y 17 (by decide) (by decide) (by decide) (by decide) (by decide)]) (e0 28 (by decide) (by decide))⟩
  · rw [e0 2 (by decide) (by decide), w45]
    exact hN.r hn (fun i hi => pM0 w i)
  · rw [pX_same (k := 48) (σ := σ) (y _ (by decide) (by decide) (by decide) (by decide) (by decide)) (y _ (by decide) (by decide) (by decide) (by decide) (by decide)) (y _ (by decide) (by decide) (by decide) (by decide) (by decide))]
    exact gn.2
  · rw [w23, w22]
    unfold rmX
    rw [pt_ne (by decide), pt_at, a1]
  · rw [w22]; exact Nat.mod_lt _ (by decide)
  · rw [w23, w21]
    unfold rmX
    rw [pt_at, a3]
  · rw [w21]; split <;> omega
  · rw [w21] at hi
    have hs : i < σ 0 21 + 1 ∧ i < 14 := by split at hi <;> omega
    rw [e0 2 (by decide) (by decide)]
    rcases Nat.eq_zero_or_pos i with h0 | h0
    · subst h0
      have er : rwi w 0 = σ 0 22 := by unfold rwi; rw [w22]; omega
      rw [er, pX_same (k := 60 + 3 * σ 0 22) (big _ (by omega)) (big _ (by omega)) (big _ (by omega)), rn]
      exact gn.1.r hn (fun j hj => by
        rw [w11, if_pos (by omega), pM0, show 32 * σ 0 22 + j - 32 * σ 0 22 = j by omega])
    · obtain ⟨i', rfl⟩ : ∃ i', i = i' + 1 := ⟨i - 1, by omega⟩
      have er : rwi w (i' + 1) = rwi σ i' := by unfold rwi; rw [w22]; omega
      have hne : rwi σ i' ≠ σ 0 22 := by unfold rwi; omega
      have hlt : rwi σ i' < 14 := Nat.mod_lt _ (by decide)
      rw [er, pX_same (k := 60 + 3 * rwi σ i') (big _ (by omega)) (big _ (by omega)) (big _ (by omega)), ro _ hlt hne]
      exact (a5 i' (by omega)).r hn (fun j hj => by
        rw [w11, if_neg (by omega)])
theorem pX_fc {σ : St} {k c x : Nat} (h : c < 5) : pX (pt σ (k + 1) c x) k = fup (pX σ k) c x := by
  funext i
  unfold pX fup pt
  simp
  grind
theorem pX_fm {σ : St} {k x : Nat} : pX (pt σ k 2 x) k = fup (pX σ k) 5 x := by
  funext i
  unfold pX fup pt
  simp
  grind
theorem PR_fup {n k : Nat} {P P' : Nat → Nat} (h : PR n k P P') {i x : Nat} (h1 : i < 5 → x < 12) (h2 : i = 5 → x < 32) (hi : i < 6) : PR n k (fup P i x) (fup P' i x) := ⟨h.1.up rfl, OKP_fup h.2.1 h1 h2 (by omega), OKP_fup h.2.2.1 h1 h2 (by omega), ZC_fup h.2.2.2.1 (by omega), by rw [fup_o (by omega)]; exact h.2.2.2.2⟩
theorem st_day (g : SIM k σ) (hk : k ≤ 2 ^ 20) : (dyX σ).1 = (dyM (dyX σ).2).1 ∧ SIM (k + 1) (dyM (dyX σ).2).2 := by
  have gc := g.2.1
  have gn := g.2.2.1
  have hn := sC_n gc
  have o := gc.1.2.1.1
  have hz : Z32 (pd (KX σ (σ 17 2)) 63 (pX σ 45)) := Z_itr o (Z_pX σ 45) 63 1
  have hu : ∀ j, j < 17 → (dyX σ).2 j = σ j := fun j h => by
    unfold dyX
    dsimp only
    rw [stX_o (by omega) (by omega) (by omega), rmX_o (by omega) (by omega)]
  obtain ⟨h1, h2, h3, -⟩ := g.mdl hk hu
  have h20 : (dyX σ).2 0 20 = 63 := h3.2.1
  have hzc : ZC (KX σ (σ 17 2) 0 2) (pX σ 45) := by rw [hn.2.2.1]; exact gn.1.2.2.2.1
  have e := PEq_pd o h2 63
  have e' : pd (dyX σ).2 63 (pM (dyX σ).2 0) = pd (KX σ (σ 17 2)) 63 (pM (dyX σ).2 0) := (pd_C o h1 63 _).symm
  unfold dyM
  rw [h20, e']
  dsimp only
  refine ⟨?_, ?_⟩
  · rw [← h1.2.2.1, ← wtS_cong e _ o.2.2.1]
    exact wtS_5 (ZC_psn o hzc _ _) o.2.2.1
  · refine SIM_act (u := (dyX σ).2) g (fun j a1 a2 a3 => ?_) (fun j a => stM_o a) ?_
    · unfold dyX
      dsimp only
      rw [stX_o (by omega) (by omega) (by omega)]
    · have eP : pX (dyX σ).2 45 = pd (KX σ (σ 17 2)) 63 (pX σ 45) := by
        unfold dyX
        dsimp only
        rw [pX_stX _ _ hz]
      rw [eP, ← hn.2.2.1]
      have pr : PR (KX σ (σ 17 2) 0 2) (k + 1) (pd (KX σ (σ 17 2)) 63 (pX σ 45)) (pd (KX σ (σ 17 2)) 63 (pM (dyX σ).2 0)) := ⟨e, OKP_psn o gn.1.2.1 _ _, OKP_psn o h3.2.2.1 _ _, ZC_psn o hzc _ _, by rw [pd, psn_31 o]; have := gn.1.2.2.2.2; omega⟩
      exact pr.r o.2.2.1 (fun i hi => by
        have := stM_get (kpA (dyX σ).2) 0 (pd (KX σ (σ 17 2)) 63 (pM (dyX σ).2 0)) i
        rw [Nat.mul_zero, Nat.zero_add] at this
        exact this)
theorem st_set (g : SIM k σ) (c x : Nat) : (seX σ c x).1 = (seM (seX σ c x).2 c x).1 ∧ SIM (k + 1) (seM (seX σ c x).2 c x).2 := by
  have gc := g.2.1
  have gn := g.2.2.1
  have hn := (sC_n gc).1
  have e9 : σ (σ 17 2) 9 = σ 0 2 := gc.2.2.2.1.2.2.1
  have ec : c < σ 0 2 → σ (45 + 1) c = σ 6 c := fun h => by
    have := gn.1.1.1 c h
    rw [pX_c (by omega), pM0] at this
    exact this
  unfold seX
  rw [e9]
  by_cases h1 : c < σ 0 2 ∧ x < 12
  · by_cases h2 : σ (45 + 1) c = x
    · rw [if_pos h1, if_pos h2]
      dsimp only
      unfold seM
      rw [if_pos h1, if_pos (by rw [← ec h1.1]; exact h2)]
      exact ⟨rfl, g.mono (Nat.le_succ k)⟩
    · rw [if_pos h1, if_neg h2]
      dsimp only
      have u0 : pt (rmX σ 45) (45 + 1) c x 0 = σ 0 := by rw [pt_o (by decide), rmX_o (by decide) (by decide)]
      have u6 : pt (rmX σ 45) (45 + 1) c x 6 = σ 6 := by rw [pt_o (by decide), rmX_o (by decide) (by decide)]
      unfold seM
      rw [u0, u6, if_pos h1, if_neg (by rw [← ec h1.1]; exact h2)]
      dsimp only
      refine ⟨ec h1.1, SIM_act (u := pt (rmX σ 45) (45 + 1) c x) g (fun j a1 a2 a3 => pt_o a2) (fun j a => pt_o a) ?_⟩
      rw [pX_fc (by omega), pX_same (u := rmX σ 45) (σ := σ) (k := 45) (rmX_o (by decide) (by decide)) (rmX_o (by decide) (by decide)) (rmX_o (by decide) (by decide))]
      have pr := PR_fup (gn.1.mono (Nat.le_succ k)) (i := c) (x := x) (fun _ => h1.2) (by omega) (by omega)
      exact pr.r hn (fun i hi => by
        unfold pt fup
        by_cases q : i = c
        · rw [if_pos ⟨rfl, q⟩, if_pos q]
        · rw [if_neg (fun z => q z.2), if_neg q, pM0, kpA_f (by decide) (by decide)]
          exact congrFun u6 i)
  · rw [if_neg h1]
    dsimp only
    unfold seM
    rw [if_neg h1]
    exact ⟨rfl, g.mono (Nat.le_succ k)⟩
theorem st_moor (g : SIM k σ) (c : Nat) : (moX σ c).1 = (moM (moX σ c).2 c).1 ∧ SIM (k + 1) (moM (moX σ c).2 c).2 := by
  have gc := g.2.1
  have gn := g.2.2.1
  have hn := (sC_n gc).1
  have e9 : σ (σ 17 2) 9 = σ 0 2 := gc.2.2.2.1.2.2.1
  have e5 : σ 45 2 = σ 6 5 := by
    have := gn.1.1.2 5 (by decide) (by decide)
    rw [pX_5, pM0] at this
    exact this
  have hm : σ 6 5 < 32 := by rw [← e5]; exact gn.1.2.1.2.1
  unfold moX
  rw [e9]
  by_cases h1 : c < σ 0 2
  · rw [if_pos h1]
    dsimp only
    have u0 : pt (rmX σ 45) 45 2 (σ 45 2 ^^^ 1 * 2 ^ c) 0 = σ 0 := by rw [pt_o (by decide), rmX_o (by decide) (by decide)]
    have u6 : pt (rmX σ 45) 45 2 (σ 45 2 ^^^ 1 * 2 ^ c) 6 = σ 6 := by rw [pt_o (by decide), rmX_o (by decide) (by decide)]
    unfold moM
    rw [u0, u6, if_pos h1]
    dsimp only
    refine ⟨by rw [bit01, e5], SIM_act (u := pt (rmX σ 45) 45 2 (σ 45 2 ^^^ 1 * 2 ^ c)) g (fun j a1 a2 a3 => pt_o a1) (fun j a => pt_o a) ?_⟩
    rw [pX_fm, pX_same (u := rmX σ 45) (σ := σ) (k := 45) (rmX_o (by decide) (by decide)) (rmX_o (by decide) (by decide)) (rmX_o (by decide) (by decide))]
    have pr := PR_fup (gn.1.mono (Nat.le_succ k)) (i := 5) (x := σ 45 2 ^^^ 1 * 2 ^ c) (by omega) (fun _ => by rw [e5]; exact xor_lt hm (by omega)) (by omega)
    exact pr.r hn (fun i hi => by
      unfold pt fup
      by_cases q : i = 5
      · rw [if_pos ⟨rfl, q⟩, if_pos q, e5]
      · rw [if_neg (fun z => q z.2), if_neg q, pM0, kpA_f (by decide) (by decide)]
        exact congrFun u6 i)
  · rw [if_neg h1]
    dsimp only
    unfold moM
    rw [if_neg h1]
    exact ⟨rfl, g.mono (Nat.le_succ k)⟩
theorem st_put (g : SIM k σ) (c : Nat) : (puX σ c).1 = (puM (puX σ c).2 c).1 ∧ SIM (k + 1) (puM (puX σ c).2 c).2 := by
  have gc := g.2.1
  have gn := g.2.2.1
  have hn := (sC_n gc).1
  have e9 : σ (σ 17 2) 9 = σ 0 2 := gc.2.2.2.1.2.2.1
  have ew : c < σ 0 2 → wtF (pX σ 45) c 5 = wtF (pM σ 0) c 5 := fun h => wtF_cong gn.1.1 (by omega) 5 (by omega)
  unfold puX
  rw [e9]
  by_cases h1 : c < σ 0 2
  · by_cases h2 : wtF (pX σ 45) c 5 = 0
    · rw [if_pos h1, if_pos h2]
      dsimp only
      unfold puM
      rw [if_pos h1, if_pos (by rw [← ew h1]; exact h2)]
      exact ⟨rfl, g.mono (Nat.le_succ k)⟩
    · rw [if_pos h1, if_neg h2]
      dsimp only
      have u0 : stX (rmX σ 45) 45 (unl (pX σ 45) c 5) 0 = σ 0 := by rw [stX_o (by decide) (by decide) (by decide), rmX_o (by decide) (by decide)]
      have u6 : pM (stX (rmX σ 45) 45 (unl (pX σ 45) c 5)) 0 = pM σ 0 := by
        funext i
        rw [pM0, pM0, stX_o (by decide) (by decide) (by decide), rmX_o (by decide) (by decide)]
      unfold puM
      rw [u0, u6, if_pos h1, if_neg (by rw [← ew h1]; exact h2)]
      dsimp only
      refine ⟨ew h1, SIM_act (u := stX (rmX σ 45) 45 (unl (pX σ 45) c 5)) g (fun j a1 a2 a3 => stX_o a1 a2 a3) (fun j a => stM_o a) ?_⟩
      rw [pX_stX _ _ (Z_unl (Z_pX σ 45) (by omega) (by omega))]
      have pr : PR (σ 0 2) (k + 1) (unl (pX σ 45) c 5) (unl (pM σ 0) c 5) := ⟨PEq_unl gn.1.1 c 5, OKP_unl gn.1.2.1 c 5, OKP_unl gn.1.2.2.1 c 5, ZC_unl gn.1.2.2.2.1 c 5, by rw [unl_o (by omega)]; have := gn.1.2.2.2.2; omega⟩
      exact pr.r hn (fun i hi => by
        have := stM_get (kpA (stX (rmX σ 45) 45 (unl (pX σ 45) c 5))) 0 (unl (pM σ 0) c 5) i
        rw [Nat.mul_zero, Nat.zero_add] at this
        exact this)
  · rw [if_neg h1]
    dsimp only
    unfold puM
    rw [if_neg h1]
    exact ⟨rfl, g.mono (Nat.le_succ k)⟩
end STEPS
