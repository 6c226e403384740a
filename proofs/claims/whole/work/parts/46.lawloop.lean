/-! THE LAW'S LOOP -/
theorem lp_le {L i : Nat} (hL : L < 2 ^ 30) (hi : i < 2 ^ 30) (h : ¬ nI L - nI 7 < nI i) : i + 7 ≤ L := by
  rw [Int32.lt_iff_toInt_lt, pk_sub_toInt hL (by decide), nI_toInt (by omega)] at h
  omega
section LL
variable {E : EE} {B : Bk} {Q : State → Prop} {sb L : Nat} {xs : Nat → Int32}
set_option maxHeartbeats 4000000 in
theorem law_sw {σ : St} {i k a : Nat} (hX : SX E B sb L xs) (hL : L < 2 ^ 31) (h7 : i + 7 ≤ L) (g : SIM k σ) (hk : k ≤ 2 ^ 20) (J : ∀ w, SIM (k + 1) w → V E B RL cL_law 4 20 Q 1086 (lvL B sb i) [] w) (ha : a < 32) : V E B RL cL_law 4 20 Q 33 (lvL B sb i) [.int (nI a)] σ := by
  by_cases e_0 : a = 0
  · exact V_tabK (pc := 33) (m := 0) 164 dL_law_33 e_0 (by decide) (by decide) rfl (by decide) (lc_write hX hL h7 g hk J)
  by_cases e_1 : a = 1
  · exact V_tabK (pc := 33) (m := 1) 187 dL_law_33 e_1 (by decide) (by decide) rfl (by decide) (lc_wipe hX hL h7 g hk J)
  by_cases e_2 : a = 2
  · exact V_tabK (pc := 33) (m := 2) 200 dL_law_33 e_2 (by decide) (by decide) rfl (by decide) (lc_fault hX hL h7 g hk J)
  by_cases e_3 : a = 3
  · exact V_tabK (pc := 33) (m := 3) 213 dL_law_33 e_3 (by decide) (by decide) rfl (by decide) (lc_coast hX hL h7 g hk J)
  by_cases e_4 : a = 4
  · exact V_tabK (pc := 33) (m := 4) 226 dL_law_33 e_4 (by decide) (by decide) rfl (by decide) (lc_ground hX hL h7 g hk J)
  by_cases e_5 : a = 5
  · exact V_tabK (pc := 33) (m := 5) 259 dL_law_33 e_5 (by decide) (by decide) rfl (by decide) (lc_child hX hL h7 g hk J)
  by_cases e_6 : a = 6
  · exact V_tabK (pc := 33) (m := 6) 292 dL_law_33 e_6 (by decide) (by decide) rfl (by decide) (lc_knows hX hL h7 g hk J)
  by_cases e_7 : a = 7
  · exact V_tabK (pc := 33) (m := 7) 325 dL_law_33 e_7 (by decide) (by decide) rfl (by decide) (lc_day hX hL h7 g hk J)
  by_cases e_8 : a = 8
  · exact V_tabK (pc := 33) (m := 8) 338 dL_law_33 e_8 (by decide) (by decide) rfl (by decide) (lc_set hX hL h7 g hk J)
  by_cases e_9 : a = 9
  · exact V_tabK (pc := 33) (m := 9) 371 dL_law_33 e_9 (by decide) (by decide) rfl (by decide) (lc_moor hX hL h7 g hk J)
  by_cases e_10 : a = 10
  · exact V_tabK (pc := 33) (m := 10) 394 dL_law_33 e_10 (by decide) (by decide) rfl (by decide) (lc_put hX hL h7 g hk J)
  by_cases e_11 : a = 11
  · exact V_tabK (pc := 33) (m := 11) 417 dL_law_33 e_11 (by decide) (by decide) rfl (by decide) (lc_undo hX hL h7 g hk J)
  by_cases e_12 : a = 12
  · exact V_tabK (pc := 33) (m := 12) 430 dL_law_33 e_12 (by decide) (by decide) rfl (by decide) (lc_ahead hX hL h7 g hk J)
  by_cases e_13 : a = 13
  · exact V_tabK (pc := 33) (m := 13) 473 dL_law_33 e_13 (by decide) (by decide) rfl (by decide) (lc_later hX hL h7 g hk J)
  by_cases e_14 : a = 14
  · exact V_tabK (pc := 33) (m := 14) 516 dL_law_33 e_14 (by decide) (by decide) rfl (by decide) (lc_enough hX hL h7 g hk J)
  by_cases e_15 : a = 15
  · exact V_tabK (pc := 33) (m := 15) 559 dL_law_33 e_15 (by decide) (by decide) rfl (by decide) (lc_best hX hL h7 g hk J)
  by_cases e_16 : a = 16
  · exact V_tabK (pc := 33) (m := 16) 602 dL_law_33 e_16 (by decide) (by decide) rfl (by decide) (lc_fit hX hL h7 g hk J)
  by_cases e_17 : a = 17
  · exact V_tabK (pc := 33) (m := 17) 615 dL_law_33 e_17 (by decide) (by decide) rfl (by decide) (lc_judge hX hL h7 g hk J)
  by_cases e_18 : a = 18
  · exact V_tabK (pc := 33) (m := 18) 678 dL_law_33 e_18 (by decide) (by decide) rfl (by decide) (lc_knew hX hL h7 g hk J)
  by_cases e_19 : a = 19
  · exact V_tabK (pc := 33) (m := 19) 721 dL_law_33 e_19 (by decide) (by decide) rfl (by decide) (lc_forget hX hL h7 g hk J)
  by_cases e_20 : a = 20
  · exact V_tabK (pc := 33) (m := 20) 734 dL_law_33 e_20 (by decide) (by decide) rfl (by decide) (lc_began hX hL h7 g hk J)
  by_cases e_21 : a = 21
  · exact V_tabK (pc := 33) (m := 21) 747 dL_law_33 e_21 (by decide) (by decide) rfl (by decide) (lc_share hX hL h7 g hk J)
  by_cases e_22 : a = 22
  · exact V_tabK (pc := 33) (m := 22) 806 dL_law_33 e_22 (by decide) (by decide) rfl (by decide) (lc_rests hX hL h7 g hk J)
  by_cases e_23 : a = 23
  · exact V_tabK (pc := 33) (m := 23) 849 dL_law_33 e_23 (by decide) (by decide) rfl (by decide) (lc_fails hX hL h7 g hk J)
  by_cases e_24 : a = 24
  · exact V_tabK (pc := 33) (m := 24) 940 dL_law_33 e_24 (by decide) (by decide) rfl (by decide) (lc_seed hX hL h7 g hk J)
  by_cases e_25 : a = 25
  · exact V_tabK (pc := 33) (m := 25) 994 dL_law_33 e_25 (by decide) (by decide) rfl (by decide) (lc_generations hX hL h7 g hk J)
  by_cases e_26 : a = 26
  · exact V_tabK (pc := 33) (m := 26) 1017 dL_law_33 e_26 (by decide) (by decide) rfl (by decide) (lc_keep hX hL h7 g hk J)
  by_cases e_27 : a = 27
  · exact V_tabK (pc := 33) (m := 27) 1040 dL_law_33 e_27 (by decide) (by decide) rfl (by decide) (lc_again hX hL h7 g hk J)
  by_cases e_28 : a = 28
  · exact V_tabK (pc := 33) (m := 28) 1063 dL_law_33 e_28 (by decide) (by decide) rfl (by decide) (lc_count hX hL h7 g hk J)
  exact V_tabO (pc := 33) 1086 dL_law_33 (by omega) (fun _ => Or.inr (by omega)) (by decide) (by decide) (J _ (g.mono (Nat.le_succ k)))
set_option maxHeartbeats 4000000 in
theorem law_loop (hX : SX E B sb L xs) (hL : L ≤ 3584) (fin : ∀ lv σ, V E B RL cL_law 4 20 Q 1092 lv [] σ) : ∀ (n i k : Nat) (σ : St), L + 8 ≤ i + n → i ≤ L + 7 → k ≤ i → SIM k σ → V E B RL cL_law 4 20 Q 18 (lvL B sb i) [] σ
  | 0, i, k, σ, h1, h2, h3, g => absurd h1 (by omega)
  | n + 1, i, k, σ, h1, h2, h3, g => by
    refine V_iload_n (pc := 18) dL_law_18 rfl ?_
    refine V_aload_n (pc := 19) dL_law_19 rfl ?_
    refine V_slen (pc := 20) hX dL_law_20 ?_
    refine V_bipush (pc := 21) 7 dL_law_21 (by decide) ?_
    refine V_isubR (pc := 23) dL_law_23 ?_
    refine V_icmpR_gt (pc := 24) 1092 dL_law_24 (by decide) (fun _ => fin _ _) (fun h => ?_)
    have h7 : i + 7 ≤ L := lp_le (by omega) (by omega) h
    have J : ∀ w, SIM (k + 1) w → V E B RL cL_law 4 20 Q 1086 (lvL B sb i) [] w := fun w gz => by
      refine V_iinc (pc := 1086) (a := i) 7 dL_law_1086 (by decide) rfl (by decide) rfl ?_
      refine V_goto (pc := 1089) 18 dL_law_1089 (by decide) ?_
      exact law_loop hX hL fin n (i + 7) (k + 1) w (by omega) (by omega) (by omega) gz
    refine V_aload_n (pc := 27) dL_law_27 rfl ?_
    refine V_iload_n (pc := 28) dL_law_28 rfl ?_
    refine V_sld (pc := 29) hX (by omega) (by omega) dL_law_29 ?_
    refine V_bipush (pc := 30) 31 dL_law_30 (by decide) ?_
    refine V_iand (pc := 32) dL_law_32 ?_
    have ha : iN (xs i) &&& 31 < 32 := Nat.lt_of_le_of_lt Nat.and_le_right (by decide)
    exact law_sw hX (by omega) h7 g (Nat.le_trans h3 (by omega)) J ha
end LL
