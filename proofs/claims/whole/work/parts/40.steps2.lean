/-! undo, keep, again, generations, coast -/
section STEPS2
variable {k : Nat} {σ u w : St}
theorem cpy_at {σ : St} {k2 b k1 a n i : Nat} (h1 : b ≤ i) (h2 : i < b + n) : cpy σ k2 b k1 a n k2 i = σ k1 (a + (i - b)) := by
  unfold cpy
  rw [if_pos ⟨rfl, h1, h2⟩]
theorem cpy_ne {σ : St} {k2 b k1 a n i : Nat} (h : i < b ∨ b + n ≤ i) : cpy σ k2 b k1 a n k2 i = σ k2 i := by
  unfold cpy
  rw [if_neg (by omega)]
theorem st_undo (g : SIM k σ) : (unX σ).1 = (unM (unX σ).2).1 ∧ SIM (k + 1) (unM (unX σ).2).2 := by
  obtain ⟨gt, gc, gn, ga, gq, gm, gs⟩ := g.mono (Nat.le_succ k)
  have b8 := (kd3' gc.1.1).2.2.2.2.2.2.2
  have d8 := (kd3' gc.2.1).2.2.2.2.2.2.2
  have hn := (sC_n gc).1
  obtain ⟨a1, a2, a3, a4, a5⟩ := ga
  unfold unX
  by_cases h1 : σ 23 2 = 0
  · rw [if_pos h1]
    dsimp only
    unfold unM
    rw [if_pos (by omega)]
    exact ⟨rfl, g.mono (Nat.le_succ k)⟩
  · rw [if_neg h1]
    dsimp only
    have hr : (σ 23 1 + 13) % 14 = rwi σ 0 := by unfold rwi; rw [a1, Nat.sub_zero]
    have hlt : rwi σ 0 < 14 := Nat.mod_lt _ (by decide)
    have pr := a5 0 (by omega)
    have eP : pX (tbX σ 45) 45 = pX σ (60 + 3 * rwi σ 0) := by
      unfold tbX
      rw [pX_stX _ _ (Z_pX _ _), hr]
      unfold tb0
      exact pX_same (by rw [pt_o (by omega), pt_o (by omega)]) (by rw [pt_o (by omega), pt_o (by omega)]) (by rw [pt_o (by omega), pt_o (by omega)])
    have eu : ∀ j, j ≠ 23 → j ≠ 45 → j ≠ 46 → j ≠ 47 → tbX σ 45 j = σ j := fun j h1 h2 h3 h4 => by
      unfold tbX tb0
      rw [stX_o h2 h3 h4, pt_o h1, pt_o h1]
    have e23a : tbX σ 45 23 1 = rwi σ 0 := by
      unfold tbX tb0
      rw [stX_o (by decide) (by decide) (by decide), pt_ne (by decide), pt_at, hr]
    have e23b : tbX σ 45 23 2 = σ 23 2 - 1 := by
      unfold tbX tb0
      rw [stX_o (by decide) (by decide) (by decide), pt_at]
    have u0 : tbX σ 45 0 = σ 0 := eu 0 (by decide) (by decide) (by decide) (by decide)
    unfold unM
    rw [u0, if_neg (by omega)]
    dsimp only
    have hr0 : (σ 0 22 + 13) % 14 = rwi σ 0 := by unfold rwi; rw [Nat.sub_zero]
    rw [hr0]
    generalize hw : cpy (pt (pt (tbX σ 45) 0 21 (σ 0 21 - 1)) 0 22 (rwi σ 0)) 6 0 11 (32 * rwi σ 0) 32 = w
    have e : ∀ j, j ≠ 6 → j ≠ 0 → j ≠ 23 → j ≠ 45 → j ≠ 46 → j ≠ 47 → w j = σ j := fun j h0 h1 h2 h3 h4 h5 => by
      rw [← hw, cpy_o h0, pt_o h1, pt_o h1, eu j h2 h3 h4 h5]
    have e0 : ∀ i, i ≠ 21 → i ≠ 22 → w 0 i = σ 0 i := fun i h1 h2 => by
      rw [← hw, cpy_o (by decide), pt_ne (by omega), pt_ne (by omega), u0]
    have w21 : w 0 21 = σ 0 21 - 1 := by rw [← hw, cpy_o (by decide), pt_ne (by decide), pt_at]
    have w22 : w 0 22 = rwi σ 0 := by rw [← hw, cpy_o (by decide), pt_at]
    have w23 : w 23 = tbX σ 45 23 := by rw [← hw, cpy_o (by decide), pt_o (by decide), pt_o (by decide)]
    have w45 : pX w 45 = pX (tbX σ 45) 45 := pX_same (by rw [← hw, cpy_o (by decide), pt_o (by decide), pt_o (by decide)]) (by rw [← hw, cpy_o (by decide), pt_o (by decide), pt_o (by decide)]) (by rw [← hw, cpy_o (by decide), pt_o (by decide), pt_o (by decide)])
    have w6 : ∀ i, i < 32 → w 6 i = σ 11 (32 * rwi σ 0 + i) := fun i hi => by
      rw [← hw, cpy_at (by omega) (by omega), pt_o (by decide), pt_o (by decide), eu 11 (by decide) (by decide) (by decide) (by decide), Nat.sub_zero]
    have y : ∀ j, j ≠ 6 → j ≠ 0 → j ≠ 23 → (j < 45 ∨ 48 ≤ j) → w j = σ j := fun j h0 h1 h2 h3 => e j h0 h1 h2 (by omega) (by omega) (by omega)
    refine ⟨by rw [a3], sT_same gt (e0 17 (by decide) (by decide)) (y 10 (by decide) (by decide) (by decide) (by decide)) (by rw [y 17 (by decide) (by decide) (by decide) (by decide)]) (y 18 (by decide) (by decide) (by decide) (by decide)),
     sC_same gc (by rw [y 17 (by decide) (by decide) (by decide) (by decide)]) (by rw [y 17 (by decide) (by decide) (by decide) (by decide)]) (fun j h1 h2 => y j (by omega) (by omega) (by omega) (by omega)) (e0 0 (by decide) (by decide)) (e0 1 (by decide) (by decide)) (e0 2 (by decide) (by decide)) (e0 20 (by decide) (by decide)) (fun j h1 h2 => y j (by omega) (by omega) (by omega) (by omega)),
     ⟨?_, ?_⟩, ⟨?_, ?_, ?_, ?_, fun i hi => ?_⟩,
     sQ_same gq (e0 2 (by decide) (by decide)) (by rw [y 17 (by decide) (by decide) (by decide) (by decide)]) (y 15 (by decide) (by decide) (by decide) (by decide)) (y 16 (by decide) (by decide) (by decide) (by decide)) (fun j h1 h2 => y j (by omega) (by omega) (by omega) (by omega)),
     sM_same gm (e0 24 (by decide) (by decide)) (by rw [y 25 (by decide) (by decide) (by decide) (by decide)]) (y 12 (by decide) (by decide) (by decide) (by decide)) (y 13 (by decide) (by decide) (by decide) (by decide)) (y 14 (by decide) (by decide) (by decide) (by decide)) (y 26 (by decide) (by decide) (by decide) (by decide)) (y 27 (by decide) (by decide) (by decide) (by decide)) (y 28 (by decide) (by decide) (by decide) (by decide)),
     sS_same gs (by rw [y 17 (by decide) (by decide) (by decide) (by decide)]) (e0 28 (by decide) (by decide))⟩
    · rw [e0 2 (by decide) (by decide), w45, eP]
      exact pr.r hn (fun i hi => by rw [pM0, w6 i hi])
    · rw [pX_same (k := 48) (σ := σ) (y _ (by decide) (by decide) (by decide) (by decide)) (y _ (by decide) (by decide) (by decide) (by decide)) (y _ (by decide) (by decide) (by decide) (by decide))]
      exact gn.2
    · rw [w23, w22, e23a]
    · rw [w22]; exact hlt
    · rw [w23, w21, e23b, a3]
    · rw [w21]; omega
    · rw [w21] at hi
      have er : rwi w i = rwi σ (i + 1) := by unfold rwi at *; rw [w22]; omega
      rw [er, e0 2 (by decide) (by decide), pX_same (k := 60 + 3 * rwi σ (i + 1)) (σ := σ) (y _ (by omega) (by omega) (by omega) (by omega)) (y _ (by omega) (by omega) (by omega) (by omega)) (y _ (by omega) (by omega) (by omega) (by omega)), y 11 (by decide) (by decide) (by decide) (by decide)]
      exact a5 (i + 1) (by omega)
theorem st_keep (g : SIM k σ) (s : Nat) : (keX σ s).1 = (keM (keX σ s).2 s).1 ∧ SIM (k + 1) (keM (keX σ s).2 s).2 := by
  obtain ⟨gt, gc, gn, ga, gq, gm, gs⟩ := g.mono (Nat.le_succ k)
  have b8 := (kd3' gc.1.1).2.2.2.2.2.2.2
  have d8 := (kd3' gc.2.1).2.2.2.2.2.2.2
  have hn := (sC_n gc).1
  obtain ⟨q1, q2, q3, q4⟩ := gq
  unfold keX
  by_cases h1 : s ≤ 1
  · rw [if_pos h1]
    dsimp only
    generalize hu : pt (stX σ (54 + 3 * s) (pX σ 45)) 17 9 (σ 17 9 ||| 1 * 2 ^ s) = u
    have eu : ∀ j, j ≠ 17 → (j < 54 ∨ 60 ≤ j) → u j = σ j := fun j a b => by rw [← hu, pt_o a, stX_o (by omega) (by omega) (by omega)]
    unfold keM
    rw [if_pos h1]
    dsimp only
    generalize hw : cpy (pt u 15 s 1) 16 (32 * s) 6 0 32 = w
    have e : ∀ j, j ≠ 15 → j ≠ 16 → j ≠ 17 → (j < 54 ∨ 60 ≤ j) → w j = σ j := fun j a b c d => by rw [← hw, cpy_o b, pt_o a, eu j c d]
    have w17 : ∀ i, i ≠ 9 → w 17 i = σ 17 i := fun i hi => by rw [← hw, cpy_o (by decide), pt_o (by decide), ← hu, pt_ne (by omega), stX_o (by omega) (by omega) (by omega)]
    have w9 : w 17 9 = σ 17 9 ||| 1 * 2 ^ s := by rw [← hw, cpy_o (by decide), pt_o (by decide), ← hu, pt_at]
    have w15 : ∀ i, w 15 i = if i = s then 1 else σ 15 i := fun i => by
      rw [← hw, cpy_o (by decide)]
      by_cases q : i = s
      · rw [if_pos q, q, pt_at]
      · rw [if_neg q, pt_ne (by omega), eu 15 (by decide) (by decide)]
    have wp : pX w (54 + 3 * s) = pX σ 45 := by
      rw [pX_same (k := 54 + 3 * s) (σ := stX σ (54 + 3 * s) (pX σ 45)) (by rw [← hw, cpy_o (by omega), pt_o (by omega), ← hu, pt_o (by omega)]) (by rw [← hw, cpy_o (by omega), pt_o (by omega), ← hu, pt_o (by omega)]) (by rw [← hw, cpy_o (by omega), pt_o (by omega), ← hu, pt_o (by omega)]), pX_stX _ _ (Z_pX σ 45)]
    refine ⟨?_, sT_same gt (by rw [e 0 (by decide) (by decide) (by decide) (by decide)]) (e 10 (by decide) (by decide) (by decide) (by decide)) (w17 1 (by decide)) (e 18 (by decide) (by decide) (by decide) (by decide)),
     sC_same gc (w17 2 (by decide)) (w17 3 (by decide)) (fun j h1 h2 => e j (by omega) (by omega) (by omega) (by omega)) (by rw [e 0 (by decide) (by decide) (by decide) (by decide)]) (by rw [e 0 (by decide) (by decide) (by decide) (by decide)]) (by rw [e 0 (by decide) (by decide) (by decide) (by decide)]) (by rw [e 0 (by decide) (by decide) (by decide) (by decide)]) (fun j h1 h2 => e j (by omega) (by omega) (by omega) (by omega)),
     sN_same gn hn (by rw [e 0 (by decide) (by decide) (by decide) (by decide)]) (pX_same (e _ (by decide) (by decide) (by decide) (by decide)) (e _ (by decide) (by decide) (by decide) (by decide)) (e _ (by decide) (by decide) (by decide) (by decide))) (fun i hi => by rw [e 6 (by decide) (by decide) (by decide) (by decide)]) (by rw [pX_same (k := 48) (σ := σ) (e _ (by decide) (by decide) (by decide) (by decide)) (e _ (by decide) (by decide) (by decide) (by decide)) (e _ (by decide) (by decide) (by decide) (by decide))]; exact gn.2),
     sA_same ga (by rw [e 0 (by decide) (by decide) (by decide) (by decide)]) (by rw [e 0 (by decide) (by decide) (by decide) (by decide)]) (by rw [e 0 (by decide) (by decide) (by decide) (by decide)]) (e 23 (by decide) (by decide) (by decide) (by decide)) (e 11 (by decide) (by decide) (by decide) (by decide)) (fun j h => e j (by omega) (by omega) (by omega) (by omega)),
     ⟨?_, fun i => ?_, fun i hi => ?_, fun i hi hz => ?_⟩,
     sM_same gm (by rw [e 0 (by decide) (by decide) (by decide) (by decide)]) (by rw [e 25 (by decide) (by decide) (by decide) (by decide)]) (e 12 (by decide) (by decide) (by decide) (by decide)) (e 13 (by decide) (by decide) (by decide) (by decide)) (e 14 (by decide) (by decide) (by decide) (by decide)) (e 26 (by decide) (by decide) (by decide) (by decide)) (e 27 (by decide) (by decide) (by decide) (by decide)) (e 28 (by decide) (by decide) (by decide) (by decide)),
     sS_same gs (w17 11 (by decide)) (by rw [e 0 (by decide) (by decide) (by decide) (by decide)])⟩
    · rw [eu 6 (by decide) (by decide)]
      have := gn.1.1.2 31 (by decide) (by decide)
      rw [pX_31, pM0] at this
      exact this
    · rw [w9]
      exact Nat.or_lt_two_pow (n := 2) q1 (by rw [Nat.one_mul]; exact Nat.pow_lt_pow_right (by decide) (by omega))
    · rw [w15]
      split
      · decide
      · exact q2 i
    · rw [w9, w15, Nat.testBit_or, Bool.or_eq_true, Nat.one_mul, Nat.testBit_two_pow, decide_eq_true_eq]
      by_cases q : i = s
      · rw [if_pos q]
        exact ⟨fun _ => rfl, fun _ => Or.inr q.symm⟩
      · rw [if_neg q, ← q3 i hi]
        exact ⟨fun z => z.resolve_right (fun z => q z.symm), Or.inl⟩
    · rw [e 0 (by decide) (by decide) (by decide) (by decide)]
      by_cases q : i = s
      · subst q
        rw [wp]
        exact gn.1.r hn (fun j hj => by rw [← hw, cpy_at (by omega) (by omega), pt_o (by decide), eu 6 (by decide) (by decide), pM0]; congr 1; omega)
      · rw [w15, if_neg q] at hz
        have wq : pX w (54 + 3 * i) = pX σ (54 + 3 * i) := pX_same (by rw [← hw, cpy_o (by omega), pt_o (by omega), ← hu, pt_o (by omega), stX_o (by omega) (by omega) (by omega)]) (by rw [← hw, cpy_o (by omega), pt_o (by omega), ← hu, pt_o (by omega), stX_o (by omega) (by omega) (by omega)]) (by rw [← hw, cpy_o (by omega), pt_o (by omega), ← hu, pt_o (by omega), stX_o (by omega) (by omega) (by omega)])
        rw [wq]
        exact (q4 i hi hz).r hn (fun j hj => by rw [← hw, cpy_ne (by omega), pt_o (by decide), eu 16 (by decide) (by decide)])
  · rw [if_neg h1]
    dsimp only
    unfold keM
    rw [if_neg h1]
    exact ⟨rfl, g.mono (Nat.le_succ k)⟩
theorem st_again (g : SIM k σ) (s : Nat) : (agX σ s).1 = (agM (agX σ s).2 s).1 ∧ SIM (k + 1) (agM (agX σ s).2 s).2 := by
  obtain ⟨gt, gc, gn, ga, gq, gm, gs⟩ := g.mono (Nat.le_succ k)
  have b8 := (kd3' gc.1.1).2.2.2.2.2.2.2
  have d8 := (kd3' gc.2.1).2.2.2.2.2.2.2
  have hn := (sC_n gc).1
  have q1 := gq.1
  have q2 := gq.2.1
  have q3 := gq.2.2.1
  have q4 := gq.2.2.2
  unfold agX
  by_cases h1 : s ≤ 1
  · by_cases h2 : (σ 17 9).testBit s = true
    · rw [if_pos h1, if_pos h2]
      dsimp only
      have h3 := (q3 s (by omega)).mp h2
      have pr := q4 s (by omega) h3
      generalize hu : pt (stX σ 45 (pX σ (54 + 3 * s))) 23 2 0 = u
      have eu : ∀ j, j ≠ 23 → j ≠ 45 → j ≠ 46 → j ≠ 47 → u j = σ j := fun j a b c d => by rw [← hu, pt_o a, stX_o b c d]
      unfold agM
      rw [if_pos h1, eu 15 (by decide) (by decide) (by decide) (by decide), if_neg (by omega)]
      dsimp only
      generalize hw : pt (cpy u 6 0 16 (32 * s) 32) 0 21 0 = w
      have e : ∀ j, j ≠ 6 → j ≠ 0 → j ≠ 23 → (j < 45 ∨ 48 ≤ j) → w j = σ j := fun j a b c d => by rw [← hw, pt_o b, cpy_o a, eu j c (by omega) (by omega) (by omega)]
      have e0 : ∀ i, i ≠ 21 → w 0 i = σ 0 i := fun i h => by rw [← hw, pt_ne (by omega), cpy_o (by decide), eu 0 (by decide) (by decide) (by decide) (by decide)]
      have wp : pX w 45 = pX σ (54 + 3 * s) := by
        rw [pX_same (k := 45) (σ := stX σ 45 (pX σ (54 + 3 * s))) (by rw [← hw, pt_o (by decide), cpy_o (by decide), ← hu, pt_o (by decide)]) (by rw [← hw, pt_o (by decide), cpy_o (by decide), ← hu, pt_o (by decide)]) (by rw [← hw, pt_o (by decide), cpy_o (by decide), ← hu, pt_o (by decide)]), pX_stX _ _ (Z_pX _ _)]
      have w23 : w 23 1 = σ 23 1 ∧ w 23 2 = 0 := by
        constructor
        · rw [← hw, pt_o (by decide), cpy_o (by decide), ← hu, pt_ne (by decide), stX_o (by decide) (by decide) (by decide)]
        · rw [← hw, pt_o (by decide), cpy_o (by decide), ← hu, pt_at]
      have w21 : w 0 21 = 0 := by rw [← hw, pt_at]
      refine ⟨?_, sT_same gt (e0 17 (by decide)) (e 10 (by decide) (by decide) (by decide) (by decide)) (by rw [e 17 (by decide) (by decide) (by decide) (by decide)]) (e 18 (by decide) (by decide) (by decide) (by decide)),
       sC_same gc (by rw [e 17 (by decide) (by decide) (by decide) (by decide)]) (by rw [e 17 (by decide) (by decide) (by decide) (by decide)]) (fun j h1 h2 => e j (by omega) (by omega) (by omega) (by omega)) (e0 0 (by decide)) (e0 1 (by decide)) (e0 2 (by decide)) (e0 20 (by decide)) (fun j h1 h2 => e j (by omega) (by omega) (by omega) (by omega)),
       ⟨?_, ?_⟩, ⟨by rw [w23.1, e0 22 (by decide)]; exact ga.1, by rw [e0 22 (by decide)]; exact ga.2.1, by rw [w23.2, w21], by rw [w21]; decide, fun i hi => by rw [w21] at hi; omega⟩,
       sQ_same gq (e0 2 (by decide)) (by rw [e 17 (by decide) (by decide) (by decide) (by decide)]) (e 15 (by decide) (by decide) (by decide) (by decide)) (e 16 (by decide) (by decide) (by decide) (by decide)) (fun j h1 h2 => e j (by omega) (by omega) (by omega) (by omega)),
       sM_same gm (e0 24 (by decide)) (by rw [e 25 (by decide) (by decide) (by decide) (by decide)]) (e 12 (by decide) (by decide) (by decide) (by decide)) (e 13 (by decide) (by decide) (by decide) (by decide)) (e 14 (by decide) (by decide) (by decide) (by decide)) (e 26 (by decide) (by decide) (by decide) (by decide)) (e 27 (by decide) (by decide) (by decide) (by decide)) (e 28 (by decide) (by decide) (by decide) (by decide)),
       sS_same gs (by rw [e 17 (by decide) (by decide) (by decide) (by decide)]) (e0 28 (by decide))⟩
      · rw [eu 16 (by decide) (by decide) (by decide) (by decide)]
        have := pr.1.2 31 (by decide) (by decide)
        rw [pX_31] at this
        exact this
      · rw [e0 2 (by decide), wp]
        exact pr.r hn (fun i hi => by rw [pM0, ← hw, pt_o (by decide), cpy_at (by omega) (by omega), eu 16 (by decide) (by decide) (by decide) (by decide), Nat.sub_zero])
      · rw [pX_same (k := 48) (σ := σ) (e _ (by decide) (by decide) (by decide) (by decide)) (e _ (by decide) (by decide) (by decide) (by decide)) (e _ (by decide) (by decide) (by decide) (by decide))]
        exact gn.2
    · rw [if_pos h1, if_neg h2]
      dsimp only
      have h3 : ¬ σ 15 s = 1 := fun q => h2 ((q3 s (by omega)).mpr q)
      have h4 := q2 s
      unfold agM
      rw [if_pos h1, if_pos (by omega)]
      exact ⟨rfl, g.mono (Nat.le_succ k)⟩
  · rw [if_neg h1]
    dsimp only
    unfold agM
    rw [if_neg h1]
    exact ⟨rfl, g.mono (Nat.le_succ k)⟩
theorem st_gen (g : SIM k σ) (hk : k ≤ 2 ^ 20) (m : Nat) (hu : TQ (pt σ 17 11 (geO σ m)) u) (hw : ∃ T, w = stM (pt u 0 28 (geN u m)) 1 T) : geG (KX σ (σ 17 2)) (σ 17 11) (pX σ 45) m = geM u m ∧ SIM (k + 1) w := by
  have hF := FC_TQ hu
  have hs := g.2.2.2.2.2.2
  have eu : ∀ j, j < 17 → u j = σ j := fun j h => by rw [hF.1 j (by omega) (by omega), pt_o (by omega)]
  obtain ⟨h1, h2, -⟩ := g.mdl hk eu
  have e28 : u 0 28 = σ 17 11 := by rw [eu 0 (by decide), hs.1]
  have eg : geN u m = geO σ m := by
    unfold geN geO
    rw [e28]
  have hlt : geO σ m < 2 ^ 64 := by
    unfold geO
    rw [hs.1]
    split
    · exact sdF_lt hs.2 m
    · exact hs.2
  constructor
  · unfold geG geM
    rw [e28, ge5_eq g.2.1.1.2.1.1 h1 h2 (by rw [(sC_n g.2.1).2.2.1]; exact g.2.2.1.1.2.2.2.1)]
  · rw [eg] at hw
    obtain ⟨T, rfl⟩ := hw
    obtain ⟨gt, gc, gn, ga, gq, gm, gs⟩ := g
    have b8 := (kd3' gc.1.1).2.2.2.2.2.2.2
    have hn := (sC_n gc).1
    have g2 : SIM k (pt (pt σ 17 11 (geO σ m)) 0 28 (geO σ m)) := by
      refine ⟨sT_same gt (by (repeat first | rw [pt_o (by omega)] | rw [pt_ne (by omega)] | rw [stX_o (by omega) (by omega) (by omega)] | rw [stM_o (by omega)] | rw [cpy_o (by omega)] | rw [kpA_f (by omega) (by omega)] | rw [kpA_o (by omega) (by omega)] | rw [rmX_o (by omega) (by omega)])) (by (repeat first | rw [pt_o (by omega)] | rw [pt_ne (by omega)] | rw [stX_o (by omega) (by omega) (by omega)] | rw [stM_o (by omega)] | rw [cpy_o (by omega)] | rw [kpA_f (by omega) (by omega)] | rw [kpA_o (by omega) (by omega)] | rw [rmX_o (by omega) (by omega)])) (by (repeat first | rw [pt_o (by omega)] | rw [pt_ne (by omega)] | rw [stX_o (by omega) (by omega) (by omega)] | rw [stM_o (by omega)] | rw [cpy_o (by omega)] | rw [kpA_f (by omega) (by omega)] | rw [kpA_o (by omega) (by omega)] | rw [rmX_o (by omega) (by omega)])) (by (repeat first | rw [pt_o (by omega)] | rw [pt_ne (by omega)] | rw [stX_o (by omega) (by omega) (by omega)] | rw [stM_o (by omega)] | rw [cpy_o (by omega)] | rw [kpA_f (by omega) (by omega)] | rw [kpA_o (by omega) (by omega)] | rw [rmX_o (by omega) (by omega)])), sC_same gc (by (repeat first | rw [pt_o (by omega)] | rw [pt_ne (by omega)] | rw [stX_o (by omega) (by omega) (by omega)] | rw [stM_o (by omega)] | rw [cpy_o (by omega)] | rw [kpA_f (by omega) (by omega)] | rw [kpA_o (by omega) (by omega)] | rw [rmX_o (by omega) (by omega)])) (by (repeat first | rw [pt_o (by omega)] | rw [pt_ne (by omega)] | rw [stX_o (by omega) (by omega) (by omega)] | rw [stM_o (by omega)] | rw [cpy_o (by omega)] | rw [kpA_f (by omega) (by omega)] | rw [kpA_o (by omega) (by omega)] | rw [rmX_o (by omega) (by omega)])) (fun j h1 h2 => (by (repeat first | rw [pt_o (by omega)] | rw [pt_ne (by omega)] | rw [stX_o (by omega) (by omega) (by omega)] | rw [stM_o (by omega)] | rw [cpy_o (by omega)] | rw [kpA_f (by omega) (by omega)] | rw [kpA_o (by omega) (by omega)] | rw [rmX_o (by omega) (by omega)]))) (by (repeat first | rw [pt_o (by omega)] | rw [pt_ne (by omega)] | rw [stX_o (by omega) (by omega) (by omega)] | rw [stM_o (by omega)] | rw [cpy_o (by omega)] | rw [kpA_f (by omega) (by omega)] | rw [kpA_o (by omega) (by omega)] | rw [rmX_o (by omega) (by omega)])) (by (repeat first | rw [pt_o (by omega)] | rw [pt_ne (by omega)] | rw [stX_o (by omega) (by omega) (by omega)] | rw [stM_o (by omega)] | rw [cpy_o (by omega)] | rw [kpA_f (by omega) (by omega)] | rw [kpA_o (by omega) (by omega)] | rw [rmX_o (by omega) (by omega)])) (by (repeat first | rw [pt_o (by omega)] | rw [pt_ne (by omega)] | rw [stX_o (by omega) (by omega) (by omega)] | rw [stM_o (by omega)] | rw [cpy_o (by omega)] | rw [kpA_f (by omega) (by omega)] | rw [kpA_o (by omega) (by omega)] | rw [rmX_o (by omega) (by omega)])) (by (repeat first | rw [pt_o (by omega)] | rw [pt_ne (by omega)] | rw [stX_o (by omega) (by omega) (by omega)] | rw [stM_o (by omega)] | rw [cpy_o (by omega)] | rw [kpA_f (by omega) (by omega)] | rw [kpA_o (by omega) (by omega)] | rw [rmX_o (by omega) (by omega)])) (fun j h1 h2 => (by (repeat first | rw [pt_o (by omega)] | rw [pt_ne (by omega)] | rw [stX_o (by omega) (by omega) (by omega)] | rw [stM_o (by omega)] | rw [cpy_o (by omega)] | rw [kpA_f (by omega) (by omega)] | rw [kpA_o (by omega) (by omega)] | rw [rmX_o (by omega) (by omega)]))), sN_same gn hn (by (repeat first | rw [pt_o (by omega)] | rw [pt_ne (by omega)] | rw [stX_o (by omega) (by omega) (by omega)] | rw [stM_o (by omega)] | rw [cpy_o (by omega)] | rw [kpA_f (by omega) (by omega)] | rw [kpA_o (by omega) (by omega)] | rw [rmX_o (by omega) (by omega)])) (pX_same (by (repeat first | rw [pt_o (by omega)] | rw [pt_ne (by omega)] | rw [stX_o (by omega) (by omega) (by omega)] | rw [stM_o (by omega)] | rw [cpy_o (by omega)] | rw [kpA_f (by omega) (by omega)] | rw [kpA_o (by omega) (by omega)] | rw [rmX_o (by omega) (by omega)])) (by (repeat first | rw [pt_o (by omega)] | rw [pt_ne (by omega)] | rw [stX_o (by omega) (by omega) (by omega)] | rw [stM_o (by omega)] | rw [cpy_o (by omega)] | rw [kpA_f (by omega) (by omega)] | rw [kpA_o (by omega) (by omega)] | rw [rmX_o (by omega) (by omega)])) (by (repeat first | rw [pt_o (by omega)] | rw [pt_ne (by omega)] | rw [stX_o (by omega) (by omega) (by omega)] | rw [stM_o (by omega)] | rw [cpy_o (by omega)] | rw [kpA_f (by omega) (by omega)] | rw [kpA_o (by omega) (by omega)] | rw [rmX_o (by omega) (by omega)]))) (fun i hi => (by (repeat first | rw [pt_o (by omega)] | rw [pt_ne (by omega)] | rw [stX_o (by omega) (by omega) (by omega)] | rw [stM_o (by omega)] | rw [cpy_o (by omega)] | rw [kpA_f (by omega) (by omega)] | rw [kpA_o (by omega) (by omega)] | rw [rmX_o (by omega) (by omega)]))) (by rw [pX_same (k := 48) (σ := σ) (by (repeat first | rw [pt_o (by omega)] | rw [pt_ne (by omega)] | rw [stX_o (by omega) (by omega) (by omega)] | rw [stM_o (by omega)] | rw [cpy_o (by omega)] | rw [kpA_f (by omega) (by omega)] | rw [kpA_o (by omega) (by omega)] | rw [rmX_o (by omega) (by omega)])) (by (repeat first | rw [pt_o (by omega)] | rw [pt_ne (by omega)] | rw [stX_o (by omega) (by omega) (by omega)] | rw [stM_o (by omega)] | rw [cpy_o (by omega)] | rw [kpA_f (by omega) (by omega)] | rw [kpA_o (by omega) (by omega)] | rw [rmX_o (by omega) (by omega)])) (by (repeat first | rw [pt_o (by omega)] | rw [pt_ne (by omega)] | rw [stX_o (by omega) (by omega) (by omega)] | rw [stM_o (by omega)] | rw [cpy_o (by omega)] | rw [kpA_f (by omega) (by omega)] | rw [kpA_o (by omega) (by omega)] | rw [rmX_o (by omega) (by omega)]))]; exact gn.2), sA_same ga (by (repeat first | rw [pt_o (by omega)] | rw [pt_ne (by omega)] | rw [stX_o (by omega) (by omega) (by omega)] | rw [stM_o (by omega)] | rw [cpy_o (by omega)] | rw [kpA_f (by omega) (by omega)] | rw [kpA_o (by omega) (by omega)] | rw [rmX_o (by omega) (by omega)])) (by (repeat first | rw [pt_o (by omega)] | rw [pt_ne (by omega)] | rw [stX_o (by omega) (by omega) (by omega)] | rw [stM_o (by omega)] | rw [cpy_o (by omega)] | rw [kpA_f (by omega) (by omega)] | rw [kpA_o (by omega) (by omega)] | rw [rmX_o (by omega) (by omega)])) (by (repeat first | rw [pt_o (by omega)] | rw [pt_ne (by omega)] | rw [stX_o (by omega) (by omega) (by omega)] | rw [stM_o (by omega)] | rw [cpy_o (by omega)] | rw [kpA_f (by omega) (by omega)] | rw [kpA_o (by omega) (by omega)] | rw [rmX_o (by omega) (by omega)])) (by (repeat first | rw [pt_o (by omega)] | rw [pt_ne (by omega)] | rw [stX_o (by omega) (by omega) (by omega)] | rw [stM_o (by omega)] | rw [cpy_o (by omega)] | rw [kpA_f (by omega) (by omega)] | rw [kpA_o (by omega) (by omega)] | rw [rmX_o (by omega) (by omega)])) (by (repeat first | rw [pt_o (by omega)] | rw [pt_ne (by omega)] | rw [stX_o (by omega) (by omega) (by omega)] | rw [stM_o (by omega)] | rw [cpy_o (by omega)] | rw [kpA_f (by omega) (by omega)] | rw [kpA_o (by omega) (by omega)] | rw [rmX_o (by omega) (by omega)])) (fun j h => (by (repeat first | rw [pt_o (by omega)] | rw [pt_ne (by omega)] | rw [stX_o (by omega) (by omega) (by omega)] | rw [stM_o (by omega)] | rw [cpy_o (by omega)] | rw [kpA_f (by omega) (by omega)] | rw [kpA_o (by omega) (by omega)] | rw [rmX_o (by omega) (by omega)]))), sQ_same gq (by (repeat first | rw [pt_o (by omega)] | rw [pt_ne (by omega)] | rw [stX_o (by omega) (by omega) (by omega)] | rw [stM_o (by omega)] | rw [cpy_o (by omega)] | rw [kpA_f (by omega) (by omega)] | rw [kpA_o (by omega) (by omega)] | rw [rmX_o (by omega) (by omega)])) (by (repeat first | rw [pt_o (by omega)] | rw [pt_ne (by omega)] | rw [stX_o (by omega) (by omega) (by omega)] | rw [stM_o (by omega)] | rw [cpy_o (by omega)] | rw [kpA_f (by omega) (by omega)] | rw [kpA_o (by omega) (by omega)] | rw [rmX_o (by omega) (by omega)])) (by (repeat first | rw [pt_o (by omega)] | rw [pt_ne (by omega)] | rw [stX_o (by omega) (by omega) (by omega)] | rw [stM_o (by omega)] | rw [cpy_o (by omega)] | rw [kpA_f (by omega) (by omega)] | rw [kpA_o (by omega) (by omega)] | rw [rmX_o (by omega) (by omega)])) (by (repeat first | rw [pt_o (by omega)] | rw [pt_ne (by omega)] | rw [stX_o (by omega) (by omega) (by omega)] | rw [stM_o (by omega)] | rw [cpy_o (by omega)] | rw [kpA_f (by omega) (by omega)] | rw [kpA_o (by omega) (by omega)] | rw [rmX_o (by omega) (by omega)])) (fun j h1 h2 => (by (repeat first | rw [pt_o (by omega)] | rw [pt_ne (by omega)] | rw [stX_o (by omega) (by omega) (by omega)] | rw [stM_o (by omega)] | rw [cpy_o (by omega)] | rw [kpA_f (by omega) (by omega)] | rw [kpA_o (by omega) (by omega)] | rw [rmX_o (by omega) (by omega)]))), sM_same gm (by (repeat first | rw [pt_o (by omega)] | rw [pt_ne (by omega)] | rw [stX_o (by omega) (by omega) (by omega)] | rw [stM_o (by omega)] | rw [cpy_o (by omega)] | rw [kpA_f (by omega) (by omega)] | rw [kpA_o (by omega) (by omega)] | rw [rmX_o (by omega) (by omega)])) (by (repeat first | rw [pt_o (by omega)] | rw [pt_ne (by omega)] | rw [stX_o (by omega) (by omega) (by omega)] | rw [stM_o (by omega)] | rw [cpy_o (by omega)] | rw [kpA_f (by omega) (by omega)] | rw [kpA_o (by omega) (by omega)] | rw [rmX_o (by omega) (by omega)])) (by (repeat first | rw [pt_o (by omega)] | rw [pt_ne (by omega)] | rw [stX_o (by omega) (by omega) (by omega)] | rw [stM_o (by omega)] | rw [cpy_o (by omega)] | rw [kpA_f (by omega) (by omega)] | rw [kpA_o (by omega) (by omega)] | rw [rmX_o (by omega) (by omega)])) (by (repeat first | rw [pt_o (by omega)] | rw [pt_ne (by omega)] | rw [stX_o (by omega) (by omega) (by omega)] | rw [stM_o (by omega)] | rw [cpy_o (by omega)] | rw [kpA_f (by omega) (by omega)] | rw [kpA_o (by omega) (by omega)] | rw [rmX_o (by omega) (by omega)])) (by (repeat first | rw [pt_o (by omega)] | rw [pt_ne (by omega)] | rw [stX_o (by omega) (by omega) (by omega)] | rw [stM_o (by omega)] | rw [cpy_o (by omega)] | rw [kpA_f (by omega) (by omega)] | rw [kpA_o (by omega) (by omega)] | rw [rmX_o (by omega) (by omega)])) (by (repeat first | rw [pt_o (by omega)] | rw [pt_ne (by omega)] | rw [stX_o (by omega) (by omega) (by omega)] | rw [stM_o (by omega)] | rw [cpy_o (by omega)] | rw [kpA_f (by omega) (by omega)] | rw [kpA_o (by omega) (by omega)] | rw [rmX_o (by omega) (by omega)])) (by (repeat first | rw [pt_o (by omega)] | rw [pt_ne (by omega)] | rw [stX_o (by omega) (by omega) (by omega)] | rw [stM_o (by omega)] | rw [cpy_o (by omega)] | rw [kpA_f (by omega) (by omega)] | rw [kpA_o (by omega) (by omega)] | rw [rmX_o (by omega) (by omega)])) (by (repeat first | rw [pt_o (by omega)] | rw [pt_ne (by omega)] | rw [stX_o (by omega) (by omega) (by omega)] | rw [stM_o (by omega)] | rw [cpy_o (by omega)] | rw [kpA_f (by omega) (by omega)] | rw [kpA_o (by omega) (by omega)] | rw [rmX_o (by omega) (by omega)])), ?_⟩
      unfold sS
      simp [pt]
      exact hlt
    refine SIM_q (σ := pt (pt σ 17 11 (geO σ m)) 0 28 (geO σ m)) (u := pt u 0 28 (geO σ m)) g2 ⟨fun j a b => ?_, ?_⟩ ⟨T, rfl⟩
    · funext i
      unfold pt
      rw [hF.1 j a b]
      unfold pt
      rfl
    · rw [pX_same (k := 48) (σ := u) (pt_o (by decide)) (pt_o (by decide)) (pt_o (by decide))]
      exact hF.2
theorem OKT_RX {u K : St} {b : Nat} (r : RX u b 1 K) (o : OKT K) : OKT (KX u b) ∧ GB u b ∧ KC (KX u b) K := by
  obtain ⟨⟨r7, r8, r9, r10⟩, q1, q2, q3, q4, q5, q6, -, -, -, q7⟩ := r
  obtain ⟨⟨o0, o1, o2, o3, o4, o5⟩, p2, p3⟩ := o
  have e0 : KX u b 0 0 = K 0 0 := r7
  have e1 : KX u b 0 1 = K 0 1 := r8
  have e2 : KX u b 0 2 = K 0 2 := r9
  refine ⟨⟨⟨by omega, by omega, by omega, fun i hi => ?_, fun i hi => ?_, fun i hi => ?_⟩, fun i hi => ?_, fun i j hi hj hq => ?_⟩, ?_, ⟨e0, e1, e2, fun i hi => q1 i (by omega), fun i hi => ⟨q2 i (by omega), q3 i (by omega), q4 i (by omega)⟩, fun i hi => q6 i (by omega)⟩⟩
  · rw [show KX u b 1 i = K 1 i from q1 i (by omega)]; exact o3 i (by omega)
  · rw [show KX u b 2 i = K 2 i from q2 i (by omega), show KX u b 3 i = K 3 i from q3 i (by omega), show KX u b 4 i = K 4 i from q4 i (by omega)]; exact o4 i (by omega)
  · rw [show KX u b 5 i = K 5 i from q6 i (by omega)]; exact o5 i (by omega)
  · rw [show KX u b 6 i = K 6 i from q5 i (by omega)]; exact p2 i (by omega)
  · rw [show KX u b 2 i = K 2 i from q2 i (by omega), show KX u b 2 j = K 2 j from q2 j (by omega)] at hq
    exact p3 i j (by omega) (by omega) hq
  · intro cell hc
    rcases q7 cell hc with ⟨h1, h2⟩ | ⟨i, h1, h2, h3⟩
    · exact Or.inl ⟨h1, fun i hi => by rw [q2 i (by omega)]; exact h2 i (by omega)⟩
    · exact Or.inr ⟨i, by omega, h2, by rw [q2 i h1]; exact h3⟩
theorem SIM_coast {u0 K : St} (g : SIM k σ) (hS : SB (σ 17 3) σ u0) (r : RX u0 (σ 17 3) 1 K) (o : OKD 1 K) (hC : CO (cxW σ u0) K w) : SIM (k + 1) w := by
  obtain ⟨gt, gc, gn, ga, gq, gm, gs⟩ := g.mono (Nat.le_succ k)
  have b8 := (kd3' gc.1.1).2.2.2.2.2.2.2
  have d8 := (kd3' gc.2.1).2.2.2.2.2.2.2
  have hn := (sC_n gc).1
  have c3 := gc.2.2.1
  obtain ⟨x0, x1, x2, x3, x4, x5, x6, x7, x8, x9, x10, x11⟩ := hC
  obtain ⟨f1, f2, f3⟩ := OKT_RX r o.2.1
  have r9 : u0 (σ 17 3) 9 = K 0 2 := r.1.2.2.1
  have q5 := r.2.2.2.2.2.1
  have o6 := o.2.1.2.1
  have n5 : K 0 2 ≤ 5 := o.2.1.1.2.2.1
  have wu : ∀ j, 10 ≤ j → j ≠ 15 → w j = cxW σ u0 j := fun j h1 h2 => funext fun i => x11 j i (Or.inr h1) h2 (Or.inl (by omega))
  have cu : ∀ j, j ≠ 17 → j ≠ 23 → j ≠ 45 → j ≠ 46 → j ≠ 47 → cxW σ u0 j = u0 j := fun j h1 h2 h3 h4 h5 => by
    unfold cxW
    rw [pt_o h1, pt_o h2, stX_o h3 h4 h5, pt_o h1, pt_o h1]
  have e : ∀ j, 10 ≤ j → j ≠ 15 → j ≠ 17 → j ≠ 23 → j ≠ 45 → j ≠ 46 → j ≠ 47 → (j < 29 ∨ 45 ≤ j) → w j = σ j := fun j h1 h2 h3 h4 h5 h6 h7 h8 => by rw [wu j h1 h2, cu j h3 h4 h5 h6 h7, hS j (by omega)]
  have y : ∀ j, 10 ≤ j → j ≠ 15 → j ≠ 17 → j ≠ 23 → (j < 29 ∨ 48 ≤ j) → w j = σ j := fun j h1 h2 h3 h4 h5 => e j h1 h2 h3 h4 (by omega) (by omega) (by omega) (by omega)
  have cx0 : cxW σ u0 0 = σ 0 := by rw [cu 0 (by decide) (by decide) (by decide) (by decide) (by decide), hS 0 (by omega)]
  have e0 : ∀ i, (i = 17 ∨ i = 20 ∨ 22 ≤ i) → w 0 i = σ 0 i := fun i h => by rw [x11 0 i (Or.inl rfl) (by decide) (Or.inr h), cx0]
  have u17 : u0 17 = σ 17 := hS 17 (by omega)
  have w17 : ∀ i, i ≠ 2 → i ≠ 3 → i ≠ 9 → w 17 i = σ 17 i := fun i h1 h2 h3 => by
    rw [wu 17 (by decide) (by decide)]
    unfold cxW
    rw [pt_ne (by omega), pt_o (by decide), stX_o (by decide) (by decide) (by decide), pt_ne (by omega), pt_ne (by omega), u17]
  have w2 : w 17 2 = σ 17 3 := by
    rw [wu 17 (by decide) (by decide)]
    unfold cxW
    rw [pt_ne (by omega), pt_o (by decide), stX_o (by decide) (by decide) (by decide), pt_ne (by omega), pt_at]
  have w3 : w 17 3 = σ 17 2 := by
    rw [wu 17 (by decide) (by decide)]
    unfold cxW
    rw [pt_ne (by omega), pt_o (by decide), stX_o (by decide) (by decide) (by decide), pt_at]
  have w9 : w 17 9 = 0 := by
    rw [wu 17 (by decide) (by decide)]
    unfold cxW
    rw [pt_at]
  have w23 : w 23 1 = σ 23 1 ∧ w 23 2 = 0 := by
    rw [wu 23 (by decide) (by decide)]
    unfold cxW
    constructor
    · rw [pt_o (by decide), pt_ne (by decide), stX_o (by decide) (by decide) (by decide), pt_o (by decide), pt_o (by decide), hS 23 (by omega)]
    · rw [pt_o (by decide), pt_at]
  have wd : ∀ j, σ 17 3 ≤ j → j < σ 17 3 + 8 → w j = u0 j := fun j h1 h2 => by rw [wu j (by omega) (by omega), cu j (by omega) (by omega) (by omega) (by omega) (by omega)]
  have hKw : KX w (σ 17 3) = KX u0 (σ 17 3) := KX_same wd
  have zb : Z32 (bgN (pX u0 45) (u0 (σ 17 3 + 5)) (u0 (σ 17 3) 9)) := fun i hi => by
    unfold bgN ldP
    rw [if_neg (by omega), if_neg (by omega), if_neg (by omega)]
  have pu : pX u0 45 = pX σ 45 := pX_same (hS _ (by omega)) (hS _ (by omega)) (hS _ (by omega))
  have wp : pX w 45 = bgN (pX σ 45) (u0 (σ 17 3 + 5)) (K 0 2) := by
    have : pX w 45 = pX (cxW σ u0) 45 := pX_same (wu _ (by decide) (by decide)) (wu _ (by decide) (by decide)) (wu _ (by decide) (by decide))
    rw [this]
    unfold cxW
    rw [pX_same (k := 45) (σ := stX (pt (pt u0 17 2 (σ 17 3)) 17 3 (σ 17 2)) 45 (bgN (pX u0 45) (u0 (σ 17 3 + 5)) (u0 (σ 17 3) 9))) (by rw [pt_o (by decide), pt_o (by decide)]) (by rw [pt_o (by decide), pt_o (by decide)]) (by rw [pt_o (by decide), pt_o (by decide)]), pX_stX _ _ zb, pu, r9]
  have hp := gn.1.2.1
  refine ⟨sT_same gt (e0 17 (by decide)) (y 10 (by decide) (by decide) (by decide) (by decide) (by decide)) (w17 1 (by decide) (by decide) (by decide)) (y 18 (by decide) (by decide) (by decide) (by decide) (by decide)),
   ⟨?_, ?_, ?_, ?_, by rw [e0 20 (by decide)]; exact gc.2.2.2.2⟩, ⟨?_, ?_⟩,
   ⟨by rw [w23.1, e0 22 (by decide)]; exact ga.1, by rw [e0 22 (by decide)]; exact ga.2.1, by rw [w23.2, x7], by rw [x7]; decide, fun i hi => by rw [x7] at hi; omega⟩,
   ⟨by rw [w9]; decide, fun i => ?_, fun s hs => ?_, fun s hs hz => ?_⟩,
   sM_same gm (e0 24 (by decide)) (by rw [y 25 (by decide) (by decide) (by decide) (by decide) (by decide)]) (y 12 (by decide) (by decide) (by decide) (by decide) (by decide)) (y 13 (by decide) (by decide) (by decide) (by decide) (by decide)) (y 14 (by decide) (by decide) (by decide) (by decide) (by decide)) (y 26 (by decide) (by decide) (by decide) (by decide) (by decide)) (y 27 (by decide) (by decide) (by decide) (by decide) (by decide)) (y 28 (by decide) (by decide) (by decide) (by decide) (by decide)),
   sS_same gs (w17 11 (by decide) (by decide) (by decide)) (e0 28 (by decide))⟩
  · rw [w2]
    exact OKX_same ⟨gc.2.1, f1, f2⟩ wd
  · rw [w3]; exact gc.1.1
  · rw [w2, w3]; exact fun q => c3 q.symm
  · rw [w2, hKw]
    obtain ⟨k0, k1, k2, k3, k4, k5⟩ := f3
    refine ⟨by rw [k0, x0], by rw [k1, x1], by rw [k2, x2], fun i hi => by rw [k3 i hi, x3 i (by omega)], fun i hi => ?_, fun i hi => by rw [k5 i hi, (x5 i (by omega)).2]⟩
    have h4 := k4 i hi
    have h5 := x4 i (by omega)
    exact ⟨by rw [h4.1, h5.1], by rw [h4.2.1, h5.2.1], by rw [h4.2.2, h5.2.2]⟩
  · rw [x2, wp]
    have pb : ∀ i, bgN (pX σ 45) (u0 (σ 17 3 + 5)) (K 0 2) i = if i < K 0 2 then K 6 i else if i = 0 then 0 else if i < 5 then pX σ 45 i else 0 := fun i => by
      unfold bgN ldP
      by_cases q : i < K 0 2
      · rw [if_pos q, if_pos q, q5 i q]
      · rw [if_neg q, if_neg q]
    refine ⟨⟨fun c hc => ?_, fun i h1 h2 => ?_⟩, ⟨fun i hi => ?_, ?_, fun i hi => ?_⟩, ⟨fun i hi => ?_, ?_, fun i hi => ?_⟩, fun i h1 h2 => ?_, ?_⟩
    · rw [pb, if_pos hc, pM0, (x5 c hc).1]
    · rw [pb, if_neg (by omega), if_neg (by omega), if_neg (by omega), pM0, x6 i (by omega) (by omega)]
    · rw [pb]
      have := hp.1 i hi
      by_cases q : i < K 0 2
      · rw [if_pos q]; exact o6 i q
      · rw [if_neg q]
        split
        · decide
        · first | exact this | (rw [if_pos hi]; exact this)
    · rw [pb, if_neg (by omega), if_neg (by omega), if_neg (by omega)]; decide
    · rw [pb, if_neg (by omega), if_neg (by omega), if_neg (by omega)]; decide
    · rw [pM0]
      by_cases q : i < K 0 2
      · rw [(x5 i q).1]; exact o6 i q
      · rw [x6 i (by omega) (by omega)]; decide
    · rw [pM0, x6 5 (by omega) (by omega)]; decide
    · rw [pM0, x6 _ (by omega) (by omega)]; decide
    · rw [pb, if_neg (by omega), if_neg (by omega), if_neg (by omega)]
    · rw [pb, if_neg (by omega), if_neg (by omega), if_neg (by omega)]; exact Nat.zero_le _
  · rw [pX_same (k := 48) (σ := σ) (y _ (by decide) (by decide) (by decide) (by decide) (by decide)) (y _ (by decide) (by decide) (by decide) (by decide) (by decide)) (y _ (by decide) (by decide) (by decide) (by decide) (by decide))]
    exact gn.2
  · rcases (show i = 0 ∨ i = 1 ∨ 2 ≤ i by omega) with q | q | q
    · rw [q, x8]; decide
    · rw [q, x9]; decide
    · rw [x10 i q, cu 15 (by decide) (by decide) (by decide) (by decide) (by decide), hS 15 (by omega)]
      exact gq.2.1 i
  · rw [w9, Nat.zero_testBit]
    rcases (show s = 0 ∨ s = 1 by omega) with q | q
    · rw [q, x8]; decide
    · rw [q, x9]; decide
  · rcases (show s = 0 ∨ s = 1 by omega) with q | q
    · rw [q, x8] at hz; cases hz
    · rw [q, x9] at hz; cases hz
theorem st_coast (g : SIM k σ) {v v' : Option Value} (hu : cxP σ v u) (hw : coP u v' w) : v = v' ∧ SIM (k + 1) w := by
  have d8 := (kd3' g.2.1.2.1).2.2.2.2.2.2.2
  rcases hu with ⟨h1, h2, u0, h3, h4, h5, h6⟩ | ⟨h1, h2, h3⟩
  · have hr : rdX σ = rdR u := by
      refine rd_eq g.1 ?_ ?_
      · rw [h6]
        unfold cxW
        rw [pt_o (by decide), pt_o (by decide), stX_o (by decide) (by decide) (by decide), pt_o (by decide), pt_o (by decide), h3 0 (by omega)]
      · rw [h6]
        unfold cxW
        rw [pt_o (by decide), pt_o (by decide), stX_o (by decide) (by decide) (by decide), pt_o (by decide), pt_o (by decide), h3 10 (by omega)]
    rcases hw with ⟨a1, a2, a3, a4⟩ | ⟨a1, a2, a3⟩
    · refine ⟨by rw [h2, a2, hr], ?_⟩
      rw [← hr, h6] at a4
      exact SIM_coast g h3 h4 h5 a4
    · rw [← hr] at a1
      exact absurd h1 a1
  · have hr : rdX σ = rdR u := rd_eq g.1 (by rw [h3 0 (by omega)]) (by rw [h3 10 (by omega)])
    rcases hw with ⟨a1, a2, a3, a4⟩ | ⟨a1, a2, a3⟩
    · rw [← hr] at a1
      exact absurd a1 h1
    · exact ⟨by rw [h2, a2], SIM_f g h3 a3⟩
theorem st_fault (g : SIM k σ) (hu : SB (σ 17 3) σ u) : (rdX σ).1 = (rdR u).1 := by
  have d8 := (kd3' g.2.1.2.1).2.2.2.2.2.2.2
  rw [rd_eq (u := u) g.1 (by rw [hu 0 (by omega)]) (by rw [hu 10 (by omega)])]
end STEPS2
