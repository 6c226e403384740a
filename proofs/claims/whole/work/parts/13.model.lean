/-! the model's day -/
theorem grF_step {K : St} {th cell i n : Nat} (h : i < n) : grF K th cell i (n - i) = if th.testBit i = true ∧ K 2 i = cell then i else grF K th cell (i + 1) (n - (i + 1)) := by
  obtain ⟨k, hk⟩ : ∃ k, n - i = k + 1 := ⟨n - i - 1, by omega⟩
  rw [hk, show n - (i + 1) = k by omega]
  rfl
set_option maxHeartbeats 4000000 in
set_option maxRecDepth 100000 in
theorem c_X5_groundAt {B : Bk} {σ : St} {cell : Nat} (o : OKK σ) (ht : σ 0 20 < 64) (hc : cell < 2 ^ 31) : MC yX5_groundAt cX5_groundAt 3 (some .int) 1 B [.ref (B.1 0), .int (nI cell)] σ (dI (grA σ (σ 0 20) cell) σ) := by
  obtain ⟨o0, o1, o2, o3, o4, o5⟩ := id o
  refine MC_int RX5 [some (.ref (B.1 0)), some (.int (nI cell)), none] 1 (by decide +kernel) rfl rfl (Nat.le_of_ble_eq_true rfl) (fun E Q hret => ?_)
  refine V_iconst (pc := 0) 0 dX5_groundAt_0 (by decide) ?_
  refine V_istore_n (pc := 1) dX5_groundAt_1 (by decide) rfl ?_
  have L_2 : ∀ (m : Nat) (i : Nat), σ 0 1 - i = m → i ≤ σ 0 1 → grA σ (σ 0 20) cell = grF σ (σ 0 20) cell i (σ 0 1 - i) → V E B RX5 cX5_groundAt 3 1 Q 2 [some (.ref (B.1 0)), some (.int (nI cell)), some (.int (nI i))] [] (σ) := by
    intro m
    induction m using Nat.strongRecOn with
    | _ m ih =>
      intro i hm hi hg
      refine V_iload_n (pc := 2) dX5_groundAt_2 rfl ?_
      refine V_aload_n (pc := 3) dX5_groundAt_3 rfl ?_
      refine G_X5_grounds (pc := 4) (by first | rfl | assumption) fl_X5_111 dX5_groundAt_4 ?_
      refine V_icmp_ge (pc := 7) 39 dX5_groundAt_7 (by decide) (by first | omega | assumption | exact and1_lt _ | exact nb_p) (by first | omega | assumption | exact and1_lt _ | exact nb_p) (fun h_7 => ?_) (fun h_7 => ?_)
      · skip
        refine V_bipush (pc := 39) 4294967287 dX5_groundAt_39 (by decide) ?_
        exact hret _ _ _ _ dX5_groundAt_41 (dI_mk (by rw [hg, show σ 0 1 - i = 0 by omega]; rfl) rfl)
      · skip
        refine V_aload_n (pc := 10) dX5_groundAt_10 rfl ?_
        refine G_X5_there (pc := 11) (by first | rfl | assumption) fl_X5_40 dX5_groundAt_11 ?_
        refine V_iload_n (pc := 14) dX5_groundAt_14 rfl ?_
        refine V_callS_I (pc := 15) ff_X5_has ml_X5_80 (c_X5_has (by first | omega | assumption | exact and1_lt _ | exact nb_p) (by first | omega | assumption | exact and1_lt _ | exact nb_p)) dX5_groundAt_15 rfl rfl (by decide) (by decide) (Nat.le_of_ble_eq_true rfl) ?_
        refine V_ifb_eq (pc := 18) 33 dX5_groundAt_18 (by decide) (fun h_18 => ?_) (fun h_18 => ?_)
        · skip
          refine V_iinc (pc := 33) 1 dX5_groundAt_33 (by decide) rfl (by decide) rfl ?_
          refine V_goto (pc := 36) 2 dX5_groundAt_36 (by decide) ?_
          exact ih _ (by omega) (i + 1) rfl (by omega) (by rw [hg, grF_step (by omega), if_neg (by grind)])
        · skip
          refine V_aload_n (pc := 21) dX5_groundAt_21 rfl ?_
          refine G_X5_groundCell (pc := 22) (by first | rfl | assumption) fl_X5_13 dX5_groundAt_22 ?_
          refine V_iload_n (pc := 25) dX5_groundAt_25 rfl ?_
          refine V_iald (pc := 26) (by first | rfl | assumption) (by first | omega | assumption | exact and1_lt _ | exact nb_p) dX5_groundAt_26 ?_
          refine V_iload_n (pc := 27) dX5_groundAt_27 rfl ?_
          refine V_icmp_ne (pc := 28) 33 dX5_groundAt_28 (by decide) (by have := (o4 i (by omega)).1; omega) (by omega) (fun h_28 => ?_) (fun h_28 => ?_)
          · skip
            refine V_iinc (pc := 33) 1 dX5_groundAt_33 (by decide) rfl (by decide) rfl ?_
            refine V_goto (pc := 36) 2 dX5_groundAt_36 (by decide) ?_
            exact ih _ (by omega) (i + 1) rfl (by omega) (by rw [hg, grF_step (by omega), if_neg (by grind)])
          · skip
            refine V_iload_n (pc := 31) dX5_groundAt_31 rfl ?_
            exact hret _ _ _ _ dX5_groundAt_32 (dI_mk (by rw [hg, grF_step (by omega), if_pos ⟨by assumption, by assumption⟩]) rfl)
  exact L_2 _ 0 rfl (by omega) rfl
set_option maxHeartbeats 4000000 in
set_option maxRecDepth 100000 in
theorem c_X5_wayOf {B : Bk} {σ : St} {day : Nat} (o : OKK σ) (hd : day < 2 ^ 31) : MC yX5_wayOf cX5_wayOf 2 (some .int) 0 B [.ref (B.1 0), .int (nI day)] σ (dI (wyO σ day) σ) := by
  obtain ⟨o0, o1, o2, o3, o4, o5⟩ := id o
  refine MC_int RX5 [some (.ref (B.1 0)), some (.int (nI day))] 0 (by decide +kernel) rfl rfl (Nat.le_of_ble_eq_true rfl) (fun E Q hret => ?_)
  refine V_aload_n (pc := 0) dX5_wayOf_0 rfl ?_
  refine G_X5_tides (pc := 1) (by first | rfl | assumption) fl_X5_108 dX5_wayOf_1 ?_
  refine V_if_ne (pc := 4) 11 dX5_wayOf_4 (by decide) (by first | omega | assumption | exact and1_lt _ | exact nb_p) (fun h_4 => ?_) (fun h_4 => ?_)
  · skip
    refine V_aload_n (pc := 11) dX5_wayOf_11 rfl ?_
    refine G_X5_tide (pc := 12) (by first | rfl | assumption) fl_X5_7 dX5_wayOf_12 ?_
    refine V_iload_n (pc := 15) dX5_wayOf_15 rfl ?_
    refine V_aload_n (pc := 16) dX5_wayOf_16 rfl ?_
    refine G_X5_tides (pc := 17) (by first | rfl | assumption) fl_X5_108 dX5_wayOf_17 ?_
    refine V_irem (pc := 20) dX5_wayOf_20 (by first | omega | assumption | exact and1_lt _ | exact nb_p) (by first | omega | assumption | exact and1_lt _ | exact nb_p) (by first | omega | assumption | exact and1_lt _ | exact nb_p) ?_
    refine V_iald (pc := 21) (by first | rfl | assumption) (by have := Nat.mod_lt day (show 0 < σ 0 0 by omega); omega) dX5_wayOf_21 ?_
    exact hret _ _ _ _ dX5_wayOf_22 (dI_mk (by unfold wyO; first | rw [if_pos (by assumption)] | rw [if_neg (by assumption)]) rfl)
  · skip
    refine V_iconst (pc := 7) 4 dX5_wayOf_7 (by decide) ?_
    refine V_goto (pc := 8) 22 dX5_wayOf_8 (by decide) ?_
    exact hret _ _ _ _ dX5_wayOf_22 (dI_mk (by unfold wyO; first | rw [if_pos (by assumption)] | rw [if_neg (by assumption)]) rfl)
set_option maxHeartbeats 4000000 in
set_option maxRecDepth 100000 in
theorem c_X5_onward {B : Bk} {σ : St} {c w : Nat} (hc : c < 2 ^ 30) (hw : w < 2 ^ 31) : MC yX5_onward cX5_onward 2 (some .int) 0 B [.int (nI c), .int (nI w)] σ (dI (onw c w) σ) := by
  refine MC_int RX5 [some (.int (nI c)), some (.int (nI w))] 0 (by decide +kernel) rfl rfl (Nat.le_of_ble_eq_true rfl) (fun E Q hret => ?_)
  refine V_iload_n (pc := 0) dX5_onward_0 rfl ?_
  by_cases hs_1_0 : w = 0
  · skip
    refine V_tabK (pc := 1) (m := 0) 32 dX5_onward_1 hs_1_0 (by decide) (by decide) rfl (by decide) ?_
    refine V_iload_n (pc := 32) dX5_onward_32 rfl ?_
    refine V_iconst (pc := 33) 4 dX5_onward_33 (by decide) ?_
    refine V_irem (pc := 34) dX5_onward_34 (by first | omega | assumption | exact and1_lt _ | exact nb_p) (by first | omega | assumption | exact and1_lt _ | exact nb_p) (by first | omega | assumption | exact and1_lt _ | exact nb_p) ?_
    refine V_if_le (pc := 35) 44 dX5_onward_35 (by decide) (by first | omega | assumption | exact and1_lt _ | exact nb_p) (fun h_35 => ?_) (fun h_35 => ?_)
    · skip
      refine V_iload_n (pc := 44) dX5_onward_44 rfl ?_
      exact hret _ _ _ _ dX5_onward_45 (dI_mk (by unfold onw; (repeat' split) <;> omega) rfl)
    · skip
      refine V_iload_n (pc := 38) dX5_onward_38 rfl ?_
      refine V_iconst (pc := 39) 1 dX5_onward_39 (by decide) ?_
      refine V_isub (pc := 40) dX5_onward_40 (by omega) ?_
      refine V_goto (pc := 41) 45 dX5_onward_41 (by decide) ?_
      exact hret _ _ _ _ dX5_onward_45 (dI_mk (by unfold onw; (repeat' split) <;> omega) rfl)
  by_cases hs_1_1 : w = 1
  · skip
    refine V_tabK (pc := 1) (m := 1) 46 dX5_onward_1 hs_1_1 (by decide) (by decide) rfl (by decide) ?_
    refine V_iload_n (pc := 46) dX5_onward_46 rfl ?_
    refine V_iconst (pc := 47) 4 dX5_onward_47 (by decide) ?_
    refine V_irem (pc := 48) dX5_onward_48 (by first | omega | assumption | exact and1_lt _ | exact nb_p) (by first | omega | assumption | exact and1_lt _ | exact nb_p) (by first | omega | assumption | exact and1_lt _ | exact nb_p) ?_
    refine V_iconst (pc := 49) 3 dX5_onward_49 (by decide) ?_
    refine V_icmp_ge (pc := 50) 59 dX5_onward_50 (by decide) (by first | omega | assumption | exact and1_lt _ | exact nb_p) (by first | omega | assumption | exact and1_lt _ | exact nb_p) (fun h_50 => ?_) (fun h_50 => ?_)
    · skip
      refine V_iload_n (pc := 59) dX5_onward_59 rfl ?_
      exact hret _ _ _ _ dX5_onward_60 (dI_mk (by unfold onw; (repeat' split) <;> omega) rfl)
    · skip
      refine V_iload_n (pc := 53) dX5_onward_53 rfl ?_
      refine V_iconst (pc := 54) 1 dX5_onward_54 (by decide) ?_
      refine V_iadd (pc := 55) dX5_onward_55 ?_
      refine V_goto (pc := 56) 60 dX5_onward_56 (by decide) ?_
      exact hret _ _ _ _ dX5_onward_60 (dI_mk (by unfold onw; (repeat' split) <;> omega) rfl)
  by_cases hs_1_2 : w = 2
  · skip
    refine V_tabK (pc := 1) (m := 2) 61 dX5_onward_1 hs_1_2 (by decide) (by decide) rfl (by decide) ?_
    refine V_iload_n (pc := 61) dX5_onward_61 rfl ?_
    refine V_iconst (pc := 62) 3 dX5_onward_62 (by decide) ?_
    refine V_icmp_le (pc := 63) 72 dX5_onward_63 (by decide) (by first | omega | assumption | exact and1_lt _ | exact nb_p) (by first | omega | assumption | exact and1_lt _ | exact nb_p) (fun h_63 => ?_) (fun h_63 => ?_)
    · skip
      refine V_iload_n (pc := 72) dX5_onward_72 rfl ?_
      exact hret _ _ _ _ dX5_onward_73 (dI_mk (by unfold onw; (repeat' split) <;> omega) rfl)
    · skip
      refine V_iload_n (pc := 66) dX5_onward_66 rfl ?_
      refine V_iconst (pc := 67) 4 dX5_onward_67 (by decide) ?_
      refine V_isub (pc := 68) dX5_onward_68 (by omega) ?_
      refine V_goto (pc := 69) 73 dX5_onward_69 (by decide) ?_
      exact hret _ _ _ _ dX5_onward_73 (dI_mk (by unfold onw; (repeat' split) <;> omega) rfl)
  by_cases hs_1_3 : w = 3
  · skip
    refine V_tabK (pc := 1) (m := 3) 74 dX5_onward_1 hs_1_3 (by decide) (by decide) rfl (by decide) ?_
    refine V_iload_n (pc := 74) dX5_onward_74 rfl ?_
    refine V_bipush (pc := 75) 8 dX5_onward_75 (by decide) ?_
    refine V_icmp_ge (pc := 77) 86 dX5_onward_77 (by decide) (by first | omega | assumption | exact and1_lt _ | exact nb_p) (by first | omega | assumption | exact and1_lt _ | exact nb_p) (fun h_77 => ?_) (fun h_77 => ?_)
    · skip
      refine V_iload_n (pc := 86) dX5_onward_86 rfl ?_
      exact hret _ _ _ _ dX5_onward_87 (dI_mk (by unfold onw; (repeat' split) <;> omega) rfl)
    · skip
      refine V_iload_n (pc := 80) dX5_onward_80 rfl ?_
      refine V_iconst (pc := 81) 4 dX5_onward_81 (by decide) ?_
      refine V_iadd (pc := 82) dX5_onward_82 ?_
      refine V_goto (pc := 83) 87 dX5_onward_83 (by decide) ?_
      exact hret _ _ _ _ dX5_onward_87 (dI_mk (by unfold onw; (repeat' split) <;> omega) rfl)
  refine V_tabO (pc := 1) 88 dX5_onward_1 (by first | omega | assumption | exact and1_lt _ | exact nb_p) (by omega) (by decide) (by decide) ?_
  refine V_iload_n (pc := 88) dX5_onward_88 rfl ?_
  exact hret _ _ _ _ dX5_onward_89 (dI_mk (by unfold onw; (repeat' split) <;> omega) rfl)
set_option maxHeartbeats 4000000 in
set_option maxRecDepth 100000 in
theorem c_X5_taught {B : Bk} {σ : St} {how knew quick : Nat} (h1 : how < 4) (h2 : knew ≤ 9) (hq : quick < 2) : MC yX5_taught cX5_taught 5 (some .int) 0 B [.int (nI how), .int (nI knew), .int (nI quick)] σ (dI (tgh how knew quick) σ) := by
  refine MC_int RX5 [some (.int (nI how)), some (.int (nI knew)), some (.int (nI quick)), none, none] 2 (by decide +kernel) rfl rfl (Nat.le_of_ble_eq_true rfl) (fun E Q hret => ?_)
  have J_77 : ∀ (t x : Nat), t < 2 ^ 32 → (if 2 ^ 31 ≤ t then 0 else if 9 < t then 9 else t) = tgh how knew quick → V E B RX5 cX5_taught 5 0 Q 77 [some (.int (nI how)), some (.int (nI knew)), some (.int (nI quick)), some (.int (nI x)), none] [.int (nI t)] σ := by
    intro t x ht he
    refine V_istore (pc := 77) dX5_taught_77 (by decide) rfl ?_
    refine V_iload (pc := 79) dX5_taught_79 rfl ?_
    refine V_if_ge (pc := 81) 88 dX5_taught_81 (by decide) (by first | omega | assumption | exact and1_lt _ | exact nb_p) (fun h_81 => ?_) (fun h_81 => ?_)
    · skip
      refine V_iload (pc := 88) dX5_taught_88 rfl ?_
      refine V_bipush (pc := 90) 9 dX5_taught_90 (by decide) ?_
      refine V_icmp_le (pc := 92) 100 dX5_taught_92 (by decide) (by omega) (by omega) (fun h_92 => ?_) (fun h_92 => ?_)
      · skip
        refine V_iload (pc := 100) dX5_taught_100 rfl ?_
        exact hret _ _ _ _ dX5_taught_102 (dI_mk (by rw [← he]; (repeat' split) <;> omega) rfl)
      · skip
        refine V_bipush (pc := 95) 9 dX5_taught_95 (by decide) ?_
        refine V_goto (pc := 97) 102 dX5_taught_97 (by decide) ?_
        exact hret _ _ _ _ dX5_taught_102 (dI_mk (by rw [← he]; (repeat' split) <;> omega) rfl)
    · skip
      refine V_iconst (pc := 84) 0 dX5_taught_84 (by decide) ?_
      refine V_goto (pc := 85) 102 dX5_taught_85 (by decide) ?_
      exact hret _ _ _ _ dX5_taught_102 (dI_mk (by rw [← he]; (repeat' split) <;> omega) rfl)
  have J_60 : ∀ (m : Nat), m = (if how = 3 then 4294967295 else mor how knew) → V E B RX5 cX5_taught 5 0 Q 60 [some (.int (nI how)), some (.int (nI knew)), some (.int (nI quick)), some (.int (nI m)), none] [] σ := by
    intro m hm
    by_cases h3 : how = 3
    · rw [if_pos h3] at hm
      subst hm
      by_cases h0 : knew = 0
      · skip
        refine V_iload_n (pc := 60) dX5_taught_60 rfl ?_
        refine V_iload_n (pc := 61) dX5_taught_61 rfl ?_
        refine V_iadd (pc := 62) dX5_taught_62 ?_
        refine V_iload_n (pc := 63) dX5_taught_63 rfl ?_
        refine V_if_eq (pc := 64) 75 dX5_taught_64 (by decide) (by first | omega | assumption | exact and1_lt _ | exact nb_p) (fun h_64 => ?_) (fun h_64 => ?_)
        · skip
          refine V_iconst (pc := 75) 0 dX5_taught_75 (by decide) ?_
          refine V_iadd (pc := 76) dX5_taught_76 ?_
          exact J_77 _ _ (by omega) (by subst h0; simp [tgh, h3])
        · skip
          refine V_iload_n (pc := 67) dX5_taught_67 rfl ?_
          refine V_if_le (pc := 68) 75 dX5_taught_68 (by decide) (by first | omega | assumption | exact and1_lt _ | exact nb_p) (fun h_68 => ?_) (fun h_68 => absurd h_68 (by omega))
          refine V_iconst (pc := 75) 0 dX5_taught_75 (by decide) ?_
          refine V_iadd (pc := 76) dX5_taught_76 ?_
          exact J_77 _ _ (by omega) (by subst h0; simp [tgh, h3])
      · skip
        refine V_iload_n (pc := 60) dX5_taught_60 rfl ?_
        refine V_iload_n (pc := 61) dX5_taught_61 rfl ?_
        refine V_iadd (pc := 62) dX5_taught_62 ?_
        rw [nI_dec (a := knew) (by omega)]
        refine V_iload_n (pc := 63) dX5_taught_63 rfl ?_
        refine V_if_eq (pc := 64) 75 dX5_taught_64 (by decide) (by first | omega | assumption | exact and1_lt _ | exact nb_p) (fun h_64 => ?_) (fun h_64 => ?_)
        · skip
          refine V_iconst (pc := 75) 0 dX5_taught_75 (by decide) ?_
          refine V_iadd (pc := 76) dX5_taught_76 ?_
          exact J_77 _ _ (by omega) (by rw [tgh, if_pos h3, if_neg (by omega), if_neg (by omega)]; omega)
        · skip
          refine V_iload_n (pc := 67) dX5_taught_67 rfl ?_
          refine V_if_le (pc := 68) 75 dX5_taught_68 (by decide) (by first | omega | assumption | exact and1_lt _ | exact nb_p) (fun h_68 => ?_) (fun h_68 => absurd h_68 (by omega))
          refine V_iconst (pc := 75) 0 dX5_taught_75 (by decide) ?_
          refine V_iadd (pc := 76) dX5_taught_76 ?_
          exact J_77 _ _ (by omega) (by rw [tgh, if_pos h3, if_neg (by omega), if_neg (by omega)]; omega)
    · rw [if_neg h3] at hm
      have hmm : m < 4 := by rw [hm]; unfold mor; (repeat' split) <;> omega
      subst hm
      refine V_iload_n (pc := 60) dX5_taught_60 rfl ?_
      refine V_iload_n (pc := 61) dX5_taught_61 rfl ?_
      refine V_iadd (pc := 62) dX5_taught_62 ?_
      refine V_iload_n (pc := 63) dX5_taught_63 rfl ?_
      refine V_if_eq (pc := 64) 75 dX5_taught_64 (by decide) (by first | omega | assumption | exact and1_lt _ | exact nb_p) (fun h_64 => ?_) (fun h_64 => ?_)
      · skip
        refine V_iconst (pc := 75) 0 dX5_taught_75 (by decide) ?_
        refine V_iadd (pc := 76) dX5_taught_76 ?_
        exact J_77 _ _ (by omega) (by rw [tgh, if_neg h3]; (repeat' split) <;> omega)
      · skip
        refine V_iload_n (pc := 67) dX5_taught_67 rfl ?_
        refine V_if_le (pc := 68) 75 dX5_taught_68 (by decide) (by first | omega | assumption | exact and1_lt _ | exact nb_p) (fun h_68 => ?_) (fun h_68 => ?_)
        · skip
          refine V_iconst (pc := 75) 0 dX5_taught_75 (by decide) ?_
          refine V_iadd (pc := 76) dX5_taught_76 ?_
          exact J_77 _ _ (by omega) (by rw [tgh, if_neg h3]; (repeat' split) <;> omega)
        · skip
          refine V_iconst (pc := 71) 1 dX5_taught_71 (by decide) ?_
          refine V_goto (pc := 72) 76 dX5_taught_72 (by decide) ?_
          refine V_iadd (pc := 76) dX5_taught_76 ?_
          exact J_77 _ _ (by omega) (by rw [tgh, if_neg h3]; (repeat' split) <;> omega)
  have J_44 : ∀ (m : Nat), m = (if how = 3 then 4294967295 else if how = 2 then 0 else mor how knew) → V E B RX5 cX5_taught 5 0 Q 44 [some (.int (nI how)), some (.int (nI knew)), some (.int (nI quick)), some (.int (nI m)), none] [] σ := by
    intro m hm
    refine V_iload_n (pc := 44) dX5_taught_44 rfl ?_
    refine V_iconst (pc := 45) 2 dX5_taught_45 (by decide) ?_
    refine V_icmp_ne (pc := 46) 58 dX5_taught_46 (by decide) (by first | omega | assumption | exact and1_lt _ | exact nb_p) (by first | omega | assumption | exact and1_lt _ | exact nb_p) (fun h_46 => ?_) (fun h_46 => ?_)
    · skip
      refine V_iload_n (pc := 58) dX5_taught_58 rfl ?_
      refine V_istore_n (pc := 59) dX5_taught_59 (by decide) rfl ?_
      exact J_60 _ (by first | omega | (rw [hm]; unfold mor; (repeat' split) <;> omega) | (unfold mor; (repeat' split) <;> omega))
    · skip
      refine V_iload_n (pc := 49) dX5_taught_49 rfl ?_
      refine V_iconst (pc := 50) 2 dX5_taught_50 (by decide) ?_
      refine V_icmp_le (pc := 51) 58 dX5_taught_51 (by decide) (by first | omega | assumption | exact and1_lt _ | exact nb_p) (by first | omega | assumption | exact and1_lt _ | exact nb_p) (fun h_51 => ?_) (fun h_51 => ?_)
      · skip
        refine V_iload_n (pc := 58) dX5_taught_58 rfl ?_
        refine V_istore_n (pc := 59) dX5_taught_59 (by decide) rfl ?_
        exact J_60 _ (by first | omega | (rw [hm]; unfold mor; (repeat' split) <;> omega) | (unfold mor; (repeat' split) <;> omega))
      · skip
        refine V_iconst (pc := 54) 2 dX5_taught_54 (by decide) ?_
        refine V_goto (pc := 55) 59 dX5_taught_55 (by decide) ?_
        refine V_istore_n (pc := 59) dX5_taught_59 (by decide) rfl ?_
        exact J_60 _ (by first | omega | (rw [hm]; unfold mor; (repeat' split) <;> omega) | (unfold mor; (repeat' split) <;> omega))
  have J_29 : ∀ (m : Nat), m = (if how = 3 then 4294967295 else if how = 2 ∨ how = 1 then 0 else 1) → V E B RX5 cX5_taught 5 0 Q 29 [some (.int (nI how)), some (.int (nI knew)), some (.int (nI quick)), some (.int (nI m)), none] [] σ := by
    intro m hm
    refine V_iload_n (pc := 29) dX5_taught_29 rfl ?_
    refine V_iconst (pc := 30) 1 dX5_taught_30 (by decide) ?_
    refine V_icmp_ne (pc := 31) 42 dX5_taught_31 (by decide) (by first | omega | assumption | exact and1_lt _ | exact nb_p) (by first | omega | assumption | exact and1_lt _ | exact nb_p) (fun h_31 => ?_) (fun h_31 => ?_)
    · skip
      refine V_iload_n (pc := 42) dX5_taught_42 rfl ?_
      refine V_istore_n (pc := 43) dX5_taught_43 (by decide) rfl ?_
      exact J_44 _ (by first | (rw [hm]; unfold mor; (repeat' split) <;> omega) | (unfold mor; (repeat' split) <;> omega))
    · skip
      refine V_iload_n (pc := 34) dX5_taught_34 rfl ?_
      refine V_if_ne (pc := 35) 42 dX5_taught_35 (by decide) (by first | omega | assumption | exact and1_lt _ | exact nb_p) (fun h_35 => ?_) (fun h_35 => ?_)
      · skip
        refine V_iload_n (pc := 42) dX5_taught_42 rfl ?_
        refine V_istore_n (pc := 43) dX5_taught_43 (by decide) rfl ?_
        exact J_44 _ (by first | (rw [hm]; unfold mor; (repeat' split) <;> omega) | (unfold mor; (repeat' split) <;> omega))
      · skip
        refine V_iconst (pc := 38) 3 dX5_taught_38 (by decide) ?_
        refine V_goto (pc := 39) 43 dX5_taught_39 (by decide) ?_
        refine V_istore_n (pc := 43) dX5_taught_43 (by decide) rfl ?_
        exact J_44 _ (by first | (rw [hm]; unfold mor; (repeat' split) <;> omega) | (unfold mor; (repeat' split) <;> omega))
  refine V_iload_n (pc := 0) dX5_taught_0 rfl ?_
  refine V_iconst (pc := 1) 1 dX5_taught_1 (by decide) ?_
  refine V_icmp_ne (pc := 2) 9 dX5_taught_2 (by decide) (by first | omega | assumption | exact and1_lt _ | exact nb_p) (by first | omega | assumption | exact and1_lt _ | exact nb_p) (fun h_2 => ?_) (fun h_2 => ?_)
  · skip
    refine V_iload_n (pc := 9) dX5_taught_9 rfl ?_
    refine V_iconst (pc := 10) 2 dX5_taught_10 (by decide) ?_
    refine V_icmp_ne (pc := 11) 18 dX5_taught_11 (by decide) (by first | omega | assumption | exact and1_lt _ | exact nb_p) (by first | omega | assumption | exact and1_lt _ | exact nb_p) (fun h_11 => ?_) (fun h_11 => ?_)
    · skip
      refine V_iload_n (pc := 18) dX5_taught_18 rfl ?_
      refine V_iconst (pc := 19) 3 dX5_taught_19 (by decide) ?_
      refine V_icmp_ne (pc := 20) 27 dX5_taught_20 (by decide) (by first | omega | assumption | exact and1_lt _ | exact nb_p) (by first | omega | assumption | exact and1_lt _ | exact nb_p) (fun h_20 => ?_) (fun h_20 => ?_)
      · skip
        refine V_iconst (pc := 27) 1 dX5_taught_27 (by decide) ?_
        refine V_istore_n (pc := 28) dX5_taught_28 (by decide) rfl ?_
        exact J_29 _ (by (repeat' split) <;> omega)
      · skip
        refine V_iconst (pc := 23) 4294967295 dX5_taught_23 (by decide) ?_
        refine V_goto (pc := 24) 28 dX5_taught_24 (by decide) ?_
        refine V_istore_n (pc := 28) dX5_taught_28 (by decide) rfl ?_
        exact J_29 _ (by (repeat' split) <;> omega)
    · skip
      refine V_iconst (pc := 14) 0 dX5_taught_14 (by decide) ?_
      refine V_goto (pc := 15) 28 dX5_taught_15 (by decide) ?_
      refine V_istore_n (pc := 28) dX5_taught_28 (by decide) rfl ?_
      exact J_29 _ (by (repeat' split) <;> omega)
  · skip
    refine V_iconst (pc := 5) 0 dX5_taught_5 (by decide) ?_
    refine V_goto (pc := 6) 28 dX5_taught_6 (by decide) ?_
    refine V_istore_n (pc := 28) dX5_taught_28 (by decide) rfl ?_
    exact J_29 _ (by (repeat' split) <;> omega)
set_option maxHeartbeats 4000000 in
set_option maxRecDepth 100000 in
theorem c_X5_together {B : Bk} {σ : St} {L cell : Nat} (o : OKK σ) (hL : L < 2) (hc : cell < 2 ^ 31) (hP : ∀ i, i < 5 → pM σ L i < 12) : MC yX5_together cX5_together 5 (some .int) 0 B [.ref (B.1 0), .int (nI L), .int (nI cell)] σ (dI (tog (pM σ L) cell (σ 0 2)) σ) := by
  obtain ⟨o0, o1, o2, o3, o4, o5⟩ := id o
  refine MC_int RX5 [some (.ref (B.1 0)), some (.int (nI L)), some (.int (nI cell)), none, none] 2 (by decide +kernel) rfl rfl (Nat.le_of_ble_eq_true rfl) (fun E Q hret => ?_)
  refine V_iconst (pc := 0) 0 dX5_together_0 (by decide) ?_
  refine V_istore_n (pc := 1) dX5_together_1 (by decide) rfl ?_
  refine V_iconst (pc := 2) 0 dX5_together_2 (by decide) ?_
  refine V_istore (pc := 3) dX5_together_3 (by decide) rfl ?_
  have L_5 : ∀ (m : Nat) (i s : Nat), σ 0 2 - i = m → i ≤ σ 0 2 → s = tog (pM σ L) cell i → V E B RX5 cX5_together 5 0 Q 5 [some (.ref (B.1 0)), some (.int (nI L)), some (.int (nI cell)), some (.int (nI s)), some (.int (nI i))] [] (σ) := by
    intro m
    induction m using Nat.strongRecOn with
    | _ m ih =>
      intro i s hm hi hs
      refine V_iload (pc := 5) dX5_together_5 rfl ?_
      refine V_aload_n (pc := 7) dX5_together_7 rfl ?_
      refine G_X5_children (pc := 8) (by first | rfl | assumption) fl_X5_114 dX5_together_8 ?_
      refine V_icmp_ge (pc := 11) 44 dX5_together_11 (by decide) (by first | omega | assumption | exact and1_lt _ | exact nb_p) (by first | omega | assumption | exact and1_lt _ | exact nb_p) (fun h_11 => ?_) (fun h_11 => ?_)
      · skip
        refine V_iload_n (pc := 44) dX5_together_44 rfl ?_
        exact hret _ _ _ _ dX5_together_45 (dI_mk (by rw [hs, show i = σ 0 2 by omega]) rfl)
      · skip
        refine V_iload_n (pc := 14) dX5_together_14 rfl ?_
        refine V_aload_n (pc := 15) dX5_together_15 rfl ?_
        refine G_X5_now (pc := 16) (by first | rfl | assumption) fl_X5_25 dX5_together_16 ?_
        refine V_bipush (pc := 19) 32 dX5_together_19 (by decide) ?_
        refine V_iload_n (pc := 21) dX5_together_21 rfl ?_
        refine V_imul (pc := 22) dX5_together_22 ?_
        refine V_iload (pc := 23) dX5_together_23 rfl ?_
        refine V_iadd (pc := 25) dX5_together_25 ?_
        refine V_iald (pc := 26) (by first | rfl | assumption) (by first | omega | assumption | exact and1_lt _ | exact nb_p) dX5_together_26 ?_
        refine V_iload_n (pc := 27) dX5_together_27 rfl ?_
        refine V_icmp_ne (pc := 28) 35 dX5_together_28 (by decide) (by have := hP i (by omega); unfold pM at this; omega) (by omega) (fun h_28 => ?_) (fun h_28 => ?_)
        · skip
          refine V_iconst (pc := 35) 0 dX5_together_35 (by decide) ?_
          refine V_iadd (pc := 36) dX5_together_36 ?_
          refine V_istore_n (pc := 37) dX5_together_37 (by decide) rfl ?_
          refine V_iinc (pc := 38) 1 dX5_together_38 (by decide) rfl (by decide) rfl ?_
          refine V_goto (pc := 41) 5 dX5_together_41 (by decide) ?_
          exact ih _ (by omega) (i + 1) _ rfl (by omega) (by simp [tog, pM, hs, h_28])
        · skip
          refine V_iconst (pc := 31) 1 dX5_together_31 (by decide) ?_
          refine V_goto (pc := 32) 36 dX5_together_32 (by decide) ?_
          refine V_iadd (pc := 36) dX5_together_36 ?_
          refine V_istore_n (pc := 37) dX5_together_37 (by decide) rfl ?_
          refine V_iinc (pc := 38) 1 dX5_together_38 (by decide) rfl (by decide) rfl ?_
          refine V_goto (pc := 41) 5 dX5_together_41 (by decide) ?_
          exact ih _ (by omega) (i + 1) _ rfl (by omega) (by simp [tog, pM, hs, h_28])
  exact L_5 _ 0 _ rfl (by omega) rfl
set_option maxHeartbeats 4000000 in
set_option maxRecDepth 100000 in
theorem c_X5_weightOn {B : Bk} {σ : St} {L c : Nat} (hL : L < 2) (hc : c < 5) : MC yX5_weightOn cX5_weightOn 5 (some .int) 0 B [.ref (B.1 0), .int (nI L), .int (nI c)] σ (dI (wtF (pM σ L) c 5) σ) := by
  refine MC_int RX5 [some (.ref (B.1 0)), some (.int (nI L)), some (.int (nI c)), none, none] 2 (by decide +kernel) rfl rfl (Nat.le_of_ble_eq_true rfl) (fun E Q hret => ?_)
  refine V_iconst (pc := 0) 0 dX5_weightOn_0 (by decide) ?_
  refine V_istore_n (pc := 1) dX5_weightOn_1 (by decide) rfl ?_
  refine V_iconst (pc := 2) 0 dX5_weightOn_2 (by decide) ?_
  refine V_istore (pc := 3) dX5_weightOn_3 (by decide) rfl ?_
  have L_5 : ∀ (m : Nat) (i s : Nat), 5 - i = m → i ≤ 5 → s = wtF (pM σ L) c i → V E B RX5 cX5_weightOn 5 0 Q 5 [some (.ref (B.1 0)), some (.int (nI L)), some (.int (nI c)), some (.int (nI s)), some (.int (nI i))] [] (σ) := by
    intro m
    induction m using Nat.strongRecOn with
    | _ m ih =>
      intro i s hm hi hs
      refine V_iload (pc := 5) dX5_weightOn_5 rfl ?_
      refine V_iconst (pc := 7) 5 dX5_weightOn_7 (by decide) ?_
      refine V_icmp_ge (pc := 8) 39 dX5_weightOn_8 (by decide) (by first | omega | assumption | exact and1_lt _ | exact nb_p) (by first | omega | assumption | exact and1_lt _ | exact nb_p) (fun h_8 => ?_) (fun h_8 => ?_)
      · skip
        refine V_iload_n (pc := 39) dX5_weightOn_39 rfl ?_
        exact hret _ _ _ _ dX5_weightOn_40 (dI_mk (by rw [hs, show i = 5 by omega]) rfl)
      · skip
        refine V_iload_n (pc := 11) dX5_weightOn_11 rfl ?_
        refine V_aload_n (pc := 12) dX5_weightOn_12 rfl ?_
        refine G_X5_now (pc := 13) (by first | rfl | assumption) fl_X5_25 dX5_weightOn_13 ?_
        refine V_bipush (pc := 16) 32 dX5_weightOn_16 (by decide) ?_
        refine V_iload_n (pc := 18) dX5_weightOn_18 rfl ?_
        refine V_imul (pc := 19) dX5_weightOn_19 ?_
        refine V_bipush (pc := 20) 6 dX5_weightOn_20 (by decide) ?_
        refine V_iadd (pc := 22) dX5_weightOn_22 ?_
        refine V_iconst (pc := 23) 5 dX5_weightOn_23 (by decide) ?_
        refine V_iload_n (pc := 24) dX5_weightOn_24 rfl ?_
        refine V_imul (pc := 25) dX5_weightOn_25 ?_
        refine V_iadd (pc := 26) dX5_weightOn_26 ?_
        refine V_iload (pc := 27) dX5_weightOn_27 rfl ?_
        refine V_iadd (pc := 29) dX5_weightOn_29 ?_
        refine V_iald (pc := 30) (by first | rfl | assumption) (by first | omega | assumption | exact and1_lt _ | exact nb_p) dX5_weightOn_30 ?_
        refine V_iadd (pc := 31) dX5_weightOn_31 ?_
        refine V_istore_n (pc := 32) dX5_weightOn_32 (by decide) rfl ?_
        refine V_iinc (pc := 33) 1 dX5_weightOn_33 (by decide) rfl (by decide) rfl ?_
        refine V_goto (pc := 36) 5 dX5_weightOn_36 (by decide) ?_
        exact ih _ (by omega) (i + 1) _ rfl (by omega) (by rw [hs, show 32 * L + 6 + 5 * c + i = 32 * L + (6 + 5 * c + i) by omega]; rfl)
  exact L_5 _ 0 _ rfl (by omega) rfl
set_option maxHeartbeats 4000000 in
set_option maxRecDepth 100000 in
theorem c_X5_weightsOn {B : Bk} {σ : St} {L : Nat} (hL : L < 2) (o2 : σ 0 2 ≤ 5) : MC yX5_weightsOn cX5_weightsOn 4 (some .int) 1 B [.ref (B.1 0), .int (nI L)] σ (dI (wtS (pM σ L) (σ 0 2)) σ) := by
  refine MC_int RX5 [some (.ref (B.1 0)), some (.int (nI L)), none, none] 2 (by decide +kernel) rfl rfl (Nat.le_of_ble_eq_true rfl) (fun E Q hret => ?_)
  refine V_iconst (pc := 0) 0 dX5_weightsOn_0 (by decide) ?_
  refine V_istore_n (pc := 1) dX5_weightsOn_1 (by decide) rfl ?_
  refine V_iconst (pc := 2) 0 dX5_weightsOn_2 (by decide) ?_
  refine V_istore_n (pc := 3) dX5_weightsOn_3 (by decide) rfl ?_
  have L_4 : ∀ (m : Nat) (i s : Nat), σ 0 2 - i = m → i ≤ σ 0 2 → s = wtS (pM σ L) i → V E B RX5 cX5_weightsOn 4 1 Q 4 [some (.ref (B.1 0)), some (.int (nI L)), some (.int (nI s)), some (.int (nI i))] [] (σ) := by
    intro m
    induction m using Nat.strongRecOn with
    | _ m ih =>
      intro i s hm hi hs
      refine V_iload_n (pc := 4) dX5_weightsOn_4 rfl ?_
      refine V_aload_n (pc := 5) dX5_weightsOn_5 rfl ?_
      refine G_X5_children (pc := 6) (by first | rfl | assumption) fl_X5_114 dX5_weightsOn_6 ?_
      refine V_icmp_ge (pc := 9) 27 dX5_weightsOn_9 (by decide) (by first | omega | assumption | exact and1_lt _ | exact nb_p) (by first | omega | assumption | exact and1_lt _ | exact nb_p) (fun h_9 => ?_) (fun h_9 => ?_)
      · skip
        refine V_iload_n (pc := 27) dX5_weightsOn_27 rfl ?_
        exact hret _ _ _ _ dX5_weightsOn_28 (dI_mk (by rw [hs, show i = σ 0 2 by omega]) rfl)
      · skip
        refine V_iload_n (pc := 12) dX5_weightsOn_12 rfl ?_
        refine V_aload_n (pc := 13) dX5_weightsOn_13 rfl ?_
        refine V_iload_n (pc := 14) dX5_weightsOn_14 rfl ?_
        refine V_iload_n (pc := 15) dX5_weightsOn_15 rfl ?_
        refine V_callV_I (pc := 16) ff_X5_weightOn ml_X5_143 (by first | rfl | assumption) rfl rfl (c_X5_weightOn (by first | omega | assumption) (by first | omega | assumption)) dX5_weightsOn_16 rfl rfl (by decide) (by decide) (Nat.le_of_ble_eq_true rfl) ?_
        refine V_iadd (pc := 19) dX5_weightsOn_19 ?_
        refine V_istore_n (pc := 20) dX5_weightsOn_20 (by decide) rfl ?_
        refine V_iinc (pc := 21) 1 dX5_weightsOn_21 (by decide) rfl (by decide) rfl ?_
        refine V_goto (pc := 24) 4 dX5_weightsOn_24 (by decide) ?_
        exact ih _ (by omega) (i + 1) _ rfl (by omega) (by rw [hs]; rfl)
  exact L_4 _ 0 _ rfl (by omega) rfl
set_option maxHeartbeats 4000000 in
set_option maxRecDepth 100000 in
theorem c_X5_childrenAt {B : Bk} {σ : St} {cell : Nat} (o2 : σ 0 2 ≤ 5) (hc : cell < 2 ^ 31) (hP : ∀ i, i < 5 → pM σ 0 i < 12) : MC yX5_childrenAt cX5_childrenAt 4 (some .int) 0 B [.ref (B.1 0), .int (nI cell)] σ (dI (chA (pM σ 0) cell (σ 0 2)) σ) := by
  refine MC_int RX5 [some (.ref (B.1 0)), some (.int (nI cell)), none, none] 2 (by decide +kernel) rfl rfl (Nat.le_of_ble_eq_true rfl) (fun E Q hret => ?_)
  refine V_iconst (pc := 0) 0 dX5_childrenAt_0 (by decide) ?_
  refine V_istore_n (pc := 1) dX5_childrenAt_1 (by decide) rfl ?_
  refine V_iconst (pc := 2) 0 dX5_childrenAt_2 (by decide) ?_
  refine V_istore_n (pc := 3) dX5_childrenAt_3 (by decide) rfl ?_
  have L_4 : ∀ (m : Nat) (i s : Nat), σ 0 2 - i = m → i ≤ σ 0 2 → s = chA (pM σ 0) cell i → V E B RX5 cX5_childrenAt 4 0 Q 4 [some (.ref (B.1 0)), some (.int (nI cell)), some (.int (nI s)), some (.int (nI i))] [] (σ) := by
    intro m
    induction m using Nat.strongRecOn with
    | _ m ih =>
      intro i s hm hi hs
      refine V_iload_n (pc := 4) dX5_childrenAt_4 rfl ?_
      refine V_aload_n (pc := 5) dX5_childrenAt_5 rfl ?_
      refine G_X5_children (pc := 6) (by first | rfl | assumption) fl_X5_114 dX5_childrenAt_6 ?_
      refine V_icmp_ge (pc := 9) 38 dX5_childrenAt_9 (by decide) (by first | omega | assumption | exact and1_lt _ | exact nb_p) (by first | omega | assumption | exact and1_lt _ | exact nb_p) (fun h_9 => ?_) (fun h_9 => ?_)
      · skip
        refine V_iload_n (pc := 38) dX5_childrenAt_38 rfl ?_
        exact hret _ _ _ _ dX5_childrenAt_39 (dI_mk (by rw [hs, show i = σ 0 2 by omega]) rfl)
      · skip
        refine V_iload_n (pc := 12) dX5_childrenAt_12 rfl ?_
        refine V_aload_n (pc := 13) dX5_childrenAt_13 rfl ?_
        refine G_X5_now (pc := 14) (by first | rfl | assumption) fl_X5_25 dX5_childrenAt_14 ?_
        refine V_iload_n (pc := 17) dX5_childrenAt_17 rfl ?_
        refine V_iald (pc := 18) (by first | rfl | assumption) (by first | omega | assumption | exact and1_lt _ | exact nb_p) dX5_childrenAt_18 ?_
        refine V_iload_n (pc := 19) dX5_childrenAt_19 rfl ?_
        refine V_icmp_ne (pc := 20) 29 dX5_childrenAt_20 (by decide) (by have := hP i (by omega); simp only [pM, Nat.mul_zero, Nat.zero_add] at this; omega) (by omega) (fun h_20 => ?_) (fun h_20 => ?_)
        · skip
          refine V_iconst (pc := 29) 0 dX5_childrenAt_29 (by decide) ?_
          refine V_ior (pc := 30) dX5_childrenAt_30 ?_
          refine V_istore_n (pc := 31) dX5_childrenAt_31 (by decide) rfl ?_
          refine V_iinc (pc := 32) 1 dX5_childrenAt_32 (by decide) rfl (by decide) rfl ?_
          refine V_goto (pc := 35) 4 dX5_childrenAt_35 (by decide) ?_
          exact ih _ (by omega) (i + 1) _ rfl (by omega) (by simp [chA, pM, hs, h_20])
        · skip
          refine V_iconst (pc := 23) 1 dX5_childrenAt_23 (by decide) ?_
          refine V_iload_n (pc := 24) dX5_childrenAt_24 rfl ?_
          refine V_ishl (pc := 25) dX5_childrenAt_25 (by first | omega | assumption | exact and1_lt _ | exact nb_p) ?_
          refine V_goto (pc := 26) 30 dX5_childrenAt_26 (by decide) ?_
          refine V_ior (pc := 30) dX5_childrenAt_30 ?_
          refine V_istore_n (pc := 31) dX5_childrenAt_31 (by decide) rfl ?_
          refine V_iinc (pc := 32) 1 dX5_childrenAt_32 (by decide) rfl (by decide) rfl ?_
          refine V_goto (pc := 35) 4 dX5_childrenAt_35 (by decide) ?_
          exact ih _ (by omega) (i + 1) _ rfl (by omega) (by simp [chA, pM, hs, h_20])
  exact L_4 _ 0 _ rfl (by omega) rfl
