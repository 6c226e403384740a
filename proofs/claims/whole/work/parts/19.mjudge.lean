/-! JUDGED of the model -/
abbrev ttB (K : St) (T : Nat → Nat) (how a r : Nat) : Prop := (how = 0 ∧ a = 0 ∧ r = 0) ∨ (how = 1 ∧ a < K 0 2 ∧ r < 12 ∧ T a ≠ r) ∨ (how = 2 ∧ a = 0 ∧ r < K 0 2) ∨ (how = 3 ∧ a = 0 ∧ r < K 0 2 ∧ 0 < wtF T r 5) ∨ (how = 4 ∧ a < K 0 2 ∧ r / 10 < 5 ∧ r % 10 ≤ T (6 + 5 * a + r / 10))
def ttT (K : St) (T : Nat → Nat) (how a r : Nat) : Nat → Nat := if how = 0 then pd K 63 T else if how = 1 then fup T a r else if how = 2 then fup T 5 (T 5 ^^^ 1 * 2 ^ r) else if how = 3 then unl T r 5 else T
def ttP (σ : St) (T : Nat → Nat) (how a r : Nat) : Option Value → St → Prop := fun v u => ∃ T', u = stM σ 1 T' ∧ v = some (.int (nI (if ttB σ T how a r then 1 else 0))) ∧ (ttB σ T how a r → T' = ttT σ T how a r)
theorem stM_g37 (σ : St) (P : Nat → Nat) : stM σ 1 P 6 37 = P 5 := stM_get σ 1 P 5
theorem stM_p37 (σ : St) (P : Nat → Nat) (x : Nat) : pt (stM σ 1 P) 6 37 x = stM σ 1 (fup P 5 x) := stM_put σ 1 P 5 x
set_option maxHeartbeats 4000000 in
set_option maxRecDepth 100000 in
theorem c_X5_tryThing {B : Bk} {σ : St} {how a r : Nat} {T : Nat → Nat} (hh : how < 10) (ha : a < 10) (hr : r < 100) (o : OKK σ) (ht : σ 0 20 = 63) (hp : OKP T) (hd : T 31 + 1 < 2 ^ 31) : MC yX5_tryThing cX5_tryThing 7 (some .boolean) 4 B [.ref (B.1 0), .int (nI how), .int (nI a), .int (nI r)] (stM σ 1 T) (ttP σ T how a r) := by
  obtain ⟨o0, o1, o2, o3, o4, o5⟩ := id o
  refine MC_bool RX5 [some (.ref (B.1 0)), some (.int (nI how)), some (.int (nI a)), some (.int (nI r)), none, none, none] 3 (by decide +kernel) rfl rfl (Nat.le_of_ble_eq_true rfl) (fun E Q hret => ?_)
  have hp5 := hp.2.1
  have J_89 : ∀ (b : Nat), (b = 1 ∧ how = 1 ∧ a < σ 0 2 ∧ r < 12 ∧ T a ≠ r) ∨ (b = 0 ∧ how = 1 ∧ ¬ (a < σ 0 2 ∧ r < 12 ∧ T a ≠ r)) → V E B RX5 cX5_tryThing 7 4 Q 89 [some (.ref (B.1 0)), some (.int (nI how)), some (.int (nI a)), some (.int (nI r)), none, none, none] [.int (nI b)] (stM σ 1 T) := by
    intro b hb
    refine V_istore (pc := 89) dX5_tryThing_89 (by decide) rfl ?_
    refine V_iload (pc := 91) dX5_tryThing_91 rfl ?_
    refine V_if_eq (pc := 93) 106 dX5_tryThing_93 (by decide) (by omega) (fun h_93 => ?_) (fun h_93 => ?_)
    · skip
      rw [show b = 0 by omega]
      try rw [stM_put1]
      refine V_iload (pc := 106) dX5_tryThing_106 rfl ?_
      exact hret _ _ _ _ dX5_tryThing_108 (by omega) (by first | exact ⟨_, rfl, by rw [if_pos (by omega)], fun _ => by unfold ttT; rw [if_neg (by omega), if_pos (by omega)]⟩ | exact ⟨_, rfl, by rw [if_neg (by omega)], fun h => absurd h (by omega)⟩)
    · skip
      rw [show b = 1 by omega]
      have hb1 : how = 1 ∧ a < σ 0 2 ∧ r < 12 ∧ T a ≠ r := by omega
      refine V_aload_n (pc := 96) dX5_tryThing_96 rfl ?_
      refine G_X5_now (pc := 97) (by first | rfl | assumption) fl_X5_25 dX5_tryThing_97 ?_
      refine V_bipush (pc := 100) 32 dX5_tryThing_100 (by decide) ?_
      refine V_iload_n (pc := 102) dX5_tryThing_102 rfl ?_
      refine V_iadd (pc := 103) dX5_tryThing_103 ?_
      refine V_iload_n (pc := 104) dX5_tryThing_104 rfl ?_
      refine V_iast (pc := 105) (by first | rfl | assumption) (by first | omega | assumption | exact and1_lt _ | exact nb_p) dX5_tryThing_105 ?_
      try rw [stM_put1]
      refine V_iload (pc := 106) dX5_tryThing_106 rfl ?_
      exact hret _ _ _ _ dX5_tryThing_108 (by omega) (by first | exact ⟨_, rfl, by rw [if_pos (by omega)], fun _ => by unfold ttT; rw [if_neg (by omega), if_pos (by omega)]⟩ | exact ⟨_, rfl, by rw [if_neg (by omega)], fun h => absurd h (by omega)⟩)
  have J_126 : ∀ (b : Nat), (b = 1 ∧ how = 2 ∧ a = 0 ∧ r < σ 0 2) ∨ (b = 0 ∧ how = 2 ∧ ¬ (a = 0 ∧ r < σ 0 2)) → V E B RX5 cX5_tryThing 7 4 Q 126 [some (.ref (B.1 0)), some (.int (nI how)), some (.int (nI a)), some (.int (nI r)), none, none, none] [.int (nI b)] (stM σ 1 T) := by
    intro b hb
    refine V_istore (pc := 126) dX5_tryThing_126 (by decide) rfl ?_
    refine V_aload_n (pc := 128) dX5_tryThing_128 rfl ?_
    refine G_X5_now (pc := 129) (by first | rfl | assumption) fl_X5_25 dX5_tryThing_129 ?_
    refine V_bipush (pc := 132) 37 dX5_tryThing_132 (by decide) ?_
    refine V_dup2 (pc := 134) dX5_tryThing_134 rfl rfl ?_
    refine V_iald (pc := 135) (by first | rfl | assumption) (by first | omega | assumption | exact and1_lt _ | exact nb_p) dX5_tryThing_135 ?_
    rw [stM_g37]
    refine V_iload (pc := 136) dX5_tryThing_136 rfl ?_
    refine V_if_eq (pc := 138) 147 dX5_tryThing_138 (by decide) (by omega) (fun h_138 => ?_) (fun h_138 => ?_)
    · skip
      rw [show b = 0 by omega]
      refine V_iconst (pc := 147) 0 dX5_tryThing_147 (by decide) ?_
      refine V_ixor (pc := 148) dX5_tryThing_148 ?_
      refine V_iast (pc := 149) (by first | rfl | assumption) (by first | omega | assumption | exact and1_lt _ | exact nb_p) dX5_tryThing_149 ?_
      rw [stM_p37]
      refine V_iload (pc := 150) dX5_tryThing_150 rfl ?_
      exact hret _ _ _ _ dX5_tryThing_152 (by omega) (by first | exact ⟨_, rfl, by rw [if_pos (by omega)], fun _ => by unfold ttT; rw [if_neg (by omega), if_neg (by omega), if_pos (by omega)]⟩ | exact ⟨_, rfl, by rw [if_neg (by omega)], fun h => absurd h (by omega)⟩)
    · skip
      rw [show b = 1 by omega]
      refine V_iconst (pc := 141) 1 dX5_tryThing_141 (by decide) ?_
      refine V_iload_n (pc := 142) dX5_tryThing_142 rfl ?_
      refine V_ishl (pc := 143) dX5_tryThing_143 (by first | omega | assumption | exact and1_lt _ | exact nb_p) ?_
      refine V_goto (pc := 144) 148 dX5_tryThing_144 (by decide) ?_
      refine V_ixor (pc := 148) dX5_tryThing_148 ?_
      refine V_iast (pc := 149) (by first | rfl | assumption) (by first | omega | assumption | exact and1_lt _ | exact nb_p) dX5_tryThing_149 ?_
      rw [stM_p37]
      refine V_iload (pc := 150) dX5_tryThing_150 rfl ?_
      exact hret _ _ _ _ dX5_tryThing_152 (by omega) (by first | exact ⟨_, rfl, by rw [if_pos (by omega)], fun _ => by unfold ttT; rw [if_neg (by omega), if_neg (by omega), if_pos (by omega)]⟩ | exact ⟨_, rfl, by rw [if_neg (by omega)], fun h => absurd h (by omega)⟩)
  have J_179 : ∀ (b : Nat), (b = 1 ∧ how = 3 ∧ a = 0 ∧ r < σ 0 2 ∧ 0 < wtF T r 5) ∨ (b = 0 ∧ how = 3 ∧ ¬ (a = 0 ∧ r < σ 0 2 ∧ 0 < wtF T r 5)) → V E B RX5 cX5_tryThing 7 4 Q 179 [some (.ref (B.1 0)), some (.int (nI how)), some (.int (nI a)), some (.int (nI r)), none, none, none] [.int (nI b)] (stM σ 1 T) := by
    intro b hb
    refine V_istore (pc := 179) dX5_tryThing_179 (by decide) rfl ?_
    refine V_iload (pc := 181) dX5_tryThing_181 rfl ?_
    refine V_if_eq (pc := 183) 192 dX5_tryThing_183 (by decide) (by omega) (fun h_183 => ?_) (fun h_183 => ?_)
    · skip
      rw [show b = 0 by omega]
      refine V_iload (pc := 192) dX5_tryThing_192 rfl ?_
      exact hret _ _ _ _ dX5_tryThing_194 (by omega) (by first | exact ⟨_, rfl, by rw [if_pos (by omega)], fun _ => by unfold ttT; rw [if_neg (by omega), if_neg (by omega), if_neg (by omega), if_pos (by omega)]⟩ | exact ⟨_, rfl, by rw [if_neg (by omega)], fun h => absurd h (by omega)⟩)
    · skip
      rw [show b = 1 by omega]
      refine V_aload_n (pc := 186) dX5_tryThing_186 rfl ?_
      refine V_iconst (pc := 187) 1 dX5_tryThing_187 (by decide) ?_
      refine V_iload_n (pc := 188) dX5_tryThing_188 rfl ?_
      refine V_callV_V (pc := 189) ff_X5_putOn ml_X5_175 (by first | rfl | assumption) rfl rfl (c_X5_putOn2 (by decide) (by omega)) dX5_tryThing_189 rfl rfl (by decide) (by decide) (Nat.le_of_ble_eq_true rfl) ?_
      refine V_iload (pc := 192) dX5_tryThing_192 rfl ?_
      exact hret _ _ _ _ dX5_tryThing_194 (by omega) (by first | exact ⟨_, rfl, by rw [if_pos (by omega)], fun _ => by unfold ttT; rw [if_neg (by omega), if_neg (by omega), if_neg (by omega), if_pos (by omega)]⟩ | exact ⟨_, rfl, by rw [if_neg (by omega)], fun h => absurd h (by omega)⟩)
  refine V_iload_n (pc := 0) dX5_tryThing_0 rfl ?_
  by_cases hs_1_0 : how = 0
  · skip
    refine V_tabK (pc := 1) (m := 0) 36 dX5_tryThing_1 hs_1_0 (by decide) (by decide) rfl (by decide) ?_
    refine V_aload_n (pc := 36) dX5_tryThing_36 rfl ?_
    refine V_iconst (pc := 37) 1 dX5_tryThing_37 (by decide) ?_
    refine V_iconst (pc := 38) 1 dX5_tryThing_38 (by decide) ?_
    refine V_callV_V (pc := 39) ff_X5_passOn ml_X5_165 (by first | rfl | assumption) rfl rfl (c_X5_passOn2 (z := 1) o (by omega) (by decide) (by decide) hp hd) dX5_tryThing_39 rfl rfl (by decide) (by decide) (Nat.le_of_ble_eq_true rfl) ?_
    rw [if_pos rfl, ht]
    refine V_iload_n (pc := 42) dX5_tryThing_42 rfl ?_
    refine V_if_ne (pc := 43) 54 dX5_tryThing_43 (by decide) (by first | omega | assumption | exact and1_lt _ | exact nb_p) (fun h_43 => ?_) (fun h_43 => ?_)
    · skip
      refine V_iconst (pc := 54) 0 dX5_tryThing_54 (by decide) ?_
      exact hret _ _ _ _ dX5_tryThing_55 (by first | decide | omega | (split <;> omega)) (by first | exact ⟨_, rfl, by rw [if_pos (by omega)], fun _ => by unfold ttT; rw [if_pos (by omega)]; rfl⟩ | exact ⟨_, rfl, by rw [if_neg (by omega)], fun h => absurd h (by omega)⟩)
    · skip
      refine V_iload_n (pc := 46) dX5_tryThing_46 rfl ?_
      refine V_if_ne (pc := 47) 54 dX5_tryThing_47 (by decide) (by first | omega | assumption | exact and1_lt _ | exact nb_p) (fun h_47 => ?_) (fun h_47 => ?_)
      · skip
        refine V_iconst (pc := 54) 0 dX5_tryThing_54 (by decide) ?_
        exact hret _ _ _ _ dX5_tryThing_55 (by first | decide | omega | (split <;> omega)) (by first | exact ⟨_, rfl, by rw [if_pos (by omega)], fun _ => by unfold ttT; rw [if_pos (by omega)]; rfl⟩ | exact ⟨_, rfl, by rw [if_neg (by omega)], fun h => absurd h (by omega)⟩)
      · skip
        refine V_iconst (pc := 50) 1 dX5_tryThing_50 (by decide) ?_
        refine V_goto (pc := 51) 55 dX5_tryThing_51 (by decide) ?_
        exact hret _ _ _ _ dX5_tryThing_55 (by first | decide | omega | (split <;> omega)) (by first | exact ⟨_, rfl, by rw [if_pos (by omega)], fun _ => by unfold ttT; rw [if_pos (by omega)]; rfl⟩ | exact ⟨_, rfl, by rw [if_neg (by omega)], fun h => absurd h (by omega)⟩)
  by_cases hs_1_1 : how = 1
  · skip
    refine V_tabK (pc := 1) (m := 1) 56 dX5_tryThing_1 hs_1_1 (by decide) (by decide) rfl (by decide) ?_
    refine V_aload_n (pc := 56) dX5_tryThing_56 rfl ?_
    refine V_iload_n (pc := 57) dX5_tryThing_57 rfl ?_
    refine V_callV_I (pc := 58) ff_X5_isChild ml_X5_153 (by first | rfl | assumption) rfl rfl (c_X5_isChild (by omega) (by rw [stM_o (by decide)]; omega)) dX5_tryThing_58 rfl rfl (by decide) (by decide) (Nat.le_of_ble_eq_true rfl) ?_
    rw [show stM σ 1 T 0 2 = σ 0 2 by rw [stM_o (by decide)]]
    refine V_ifb_eq (pc := 61) 88 dX5_tryThing_61 (by decide) (fun h_61 => ?_) (fun h_61 => ?_)
    · skip
      refine V_iconst (pc := 88) 0 dX5_tryThing_88 (by decide) ?_
      exact J_89 _ (by omega)
    · skip
      refine V_iload_n (pc := 64) dX5_tryThing_64 rfl ?_
      refine V_callS_I (pc := 65) ff_X5_isCell ml_X5_172 (c_X5_isCell (by first | omega | assumption | exact and1_lt _ | exact nb_p)) dX5_tryThing_65 rfl rfl (by decide) (by decide) (Nat.le_of_ble_eq_true rfl) ?_
      refine V_ifb_eq (pc := 68) 88 dX5_tryThing_68 (by decide) (fun h_68 => ?_) (fun h_68 => ?_)
      · skip
        refine V_iconst (pc := 88) 0 dX5_tryThing_88 (by decide) ?_
        exact J_89 _ (by omega)
      · skip
        refine V_aload_n (pc := 71) dX5_tryThing_71 rfl ?_
        refine G_X5_now (pc := 72) (by first | rfl | assumption) fl_X5_25 dX5_tryThing_72 ?_
        refine V_bipush (pc := 75) 32 dX5_tryThing_75 (by decide) ?_
        refine V_iload_n (pc := 77) dX5_tryThing_77 rfl ?_
        refine V_iadd (pc := 78) dX5_tryThing_78 ?_
        refine V_iald (pc := 79) (by first | rfl | assumption) (by first | omega | assumption | exact and1_lt _ | exact nb_p) dX5_tryThing_79 ?_
        rw [stM_get1]
        refine V_iload_n (pc := 80) dX5_tryThing_80 rfl ?_
        refine V_icmp_eq (pc := 81) 88 dX5_tryThing_81 (by decide) (by have := hp.1 a (by omega); omega) (by omega) (fun h_81 => ?_) (fun h_81 => ?_)
        · skip
          refine V_iconst (pc := 88) 0 dX5_tryThing_88 (by decide) ?_
          exact J_89 _ (by omega)
        · skip
          refine V_iconst (pc := 84) 1 dX5_tryThing_84 (by decide) ?_
          refine V_goto (pc := 85) 89 dX5_tryThing_85 (by decide) ?_
          exact J_89 _ (by omega)
  by_cases hs_1_2 : how = 2
  · skip
    refine V_tabK (pc := 1) (m := 2) 109 dX5_tryThing_1 hs_1_2 (by decide) (by decide) rfl (by decide) ?_
    refine V_iload_n (pc := 109) dX5_tryThing_109 rfl ?_
    refine V_if_ne (pc := 110) 125 dX5_tryThing_110 (by decide) (by first | omega | assumption | exact and1_lt _ | exact nb_p) (fun h_110 => ?_) (fun h_110 => ?_)
    · skip
      refine V_iconst (pc := 125) 0 dX5_tryThing_125 (by decide) ?_
      exact J_126 _ (by omega)
    · skip
      refine V_aload_n (pc := 113) dX5_tryThing_113 rfl ?_
      refine V_iload_n (pc := 114) dX5_tryThing_114 rfl ?_
      refine V_callV_I (pc := 115) ff_X5_isChild ml_X5_153 (by first | rfl | assumption) rfl rfl (c_X5_isChild (by omega) (by rw [stM_o (by decide)]; omega)) dX5_tryThing_115 rfl rfl (by decide) (by decide) (Nat.le_of_ble_eq_true rfl) ?_
      rw [show stM σ 1 T 0 2 = σ 0 2 by rw [stM_o (by decide)]]
      refine V_ifb_eq (pc := 118) 125 dX5_tryThing_118 (by decide) (fun h_118 => ?_) (fun h_118 => ?_)
      · skip
        refine V_iconst (pc := 125) 0 dX5_tryThing_125 (by decide) ?_
        exact J_126 _ (by omega)
      · skip
        refine V_iconst (pc := 121) 1 dX5_tryThing_121 (by decide) ?_
        refine V_goto (pc := 122) 126 dX5_tryThing_122 (by decide) ?_
        exact J_126 _ (by omega)
  by_cases hs_1_3 : how = 3
  · skip
    refine V_tabK (pc := 1) (m := 3) 153 dX5_tryThing_1 hs_1_3 (by decide) (by decide) rfl (by decide) ?_
    refine V_iload_n (pc := 153) dX5_tryThing_153 rfl ?_
    refine V_if_ne (pc := 154) 178 dX5_tryThing_154 (by decide) (by first | omega | assumption | exact and1_lt _ | exact nb_p) (fun h_154 => ?_) (fun h_154 => ?_)
    · skip
      refine V_iconst (pc := 178) 0 dX5_tryThing_178 (by decide) ?_
      exact J_179 _ (by omega)
    · skip
      refine V_aload_n (pc := 157) dX5_tryThing_157 rfl ?_
      refine V_iload_n (pc := 158) dX5_tryThing_158 rfl ?_
      refine V_callV_I (pc := 159) ff_X5_isChild ml_X5_153 (by first | rfl | assumption) rfl rfl (c_X5_isChild (by omega) (by rw [stM_o (by decide)]; omega)) dX5_tryThing_159 rfl rfl (by decide) (by decide) (Nat.le_of_ble_eq_true rfl) ?_
      rw [show stM σ 1 T 0 2 = σ 0 2 by rw [stM_o (by decide)]]
      refine V_ifb_eq (pc := 162) 178 dX5_tryThing_162 (by decide) (fun h_162 => ?_) (fun h_162 => ?_)
      · skip
        refine V_iconst (pc := 178) 0 dX5_tryThing_178 (by decide) ?_
        exact J_179 _ (by omega)
      · skip
        refine V_aload_n (pc := 165) dX5_tryThing_165 rfl ?_
        refine V_iconst (pc := 166) 1 dX5_tryThing_166 (by decide) ?_
        refine V_iload_n (pc := 167) dX5_tryThing_167 rfl ?_
        refine V_callV_I (pc := 168) ff_X5_weightOn ml_X5_143 (by first | rfl | assumption) rfl rfl (c_X5_weightOn (by first | omega | assumption) (by first | omega | assumption)) dX5_tryThing_168 rfl rfl (by decide) (by decide) (Nat.le_of_ble_eq_true rfl) ?_
        rw [pM_stM]
        have hwl := wtF_le hp (show r < 5 by omega) 5 (by omega)
        refine V_if_le (pc := 171) 178 dX5_tryThing_171 (by decide) (by omega) (fun h_171 => ?_) (fun h_171 => ?_)
        · skip
          refine V_iconst (pc := 178) 0 dX5_tryThing_178 (by decide) ?_
          exact J_179 _ (by omega)
        · skip
          refine V_iconst (pc := 174) 1 dX5_tryThing_174 (by decide) ?_
          refine V_goto (pc := 175) 179 dX5_tryThing_175 (by decide) ?_
          exact J_179 _ (by omega)
  by_cases hs_1_4 : how = 4
  · skip
    refine V_tabK (pc := 1) (m := 4) 195 dX5_tryThing_1 hs_1_4 (by decide) (by decide) rfl (by decide) ?_
    refine V_aload_n (pc := 195) dX5_tryThing_195 rfl ?_
    refine V_iload_n (pc := 196) dX5_tryThing_196 rfl ?_
    refine V_callV_I (pc := 197) ff_X5_isChild ml_X5_153 (by first | rfl | assumption) rfl rfl (c_X5_isChild (by omega) (by rw [stM_o (by decide)]; omega)) dX5_tryThing_197 rfl rfl (by decide) (by decide) (Nat.le_of_ble_eq_true rfl) ?_
    rw [show stM σ 1 T 0 2 = σ 0 2 by rw [stM_o (by decide)]]
    refine V_ifb_eq (pc := 200) 240 dX5_tryThing_200 (by decide) (fun h_200 => ?_) (fun h_200 => ?_)
    · skip
      refine V_iconst (pc := 240) 0 dX5_tryThing_240 (by decide) ?_
      exact hret _ _ _ _ dX5_tryThing_241 (by first | decide | omega | (split <;> omega)) (by first | exact ⟨_, rfl, by rw [if_pos (by omega)], fun _ => by unfold ttT; rw [if_neg (by omega), if_neg (by omega), if_neg (by omega), if_neg (by omega)]⟩ | exact ⟨_, rfl, by rw [if_neg (by omega)], fun h => absurd h (by omega)⟩)
    · skip
      refine V_iload_n (pc := 203) dX5_tryThing_203 rfl ?_
      refine V_bipush (pc := 204) 10 dX5_tryThing_204 (by decide) ?_
      refine V_idiv (pc := 206) dX5_tryThing_206 (by first | omega | assumption | exact and1_lt _ | exact nb_p) (by first | omega | assumption | exact and1_lt _ | exact nb_p) (by first | omega | assumption | exact and1_lt _ | exact nb_p) ?_
      refine V_callS_I (pc := 207) ff_X5_isSubject ml_X5_156 (c_X5_isSubject (by first | omega | assumption | exact and1_lt _ | exact nb_p)) dX5_tryThing_207 rfl rfl (by decide) (by decide) (Nat.le_of_ble_eq_true rfl) ?_
      refine V_ifb_eq (pc := 210) 240 dX5_tryThing_210 (by decide) (fun h_210 => ?_) (fun h_210 => ?_)
      · skip
        refine V_iconst (pc := 240) 0 dX5_tryThing_240 (by decide) ?_
        exact hret _ _ _ _ dX5_tryThing_241 (by first | decide | omega | (split <;> omega)) (by first | exact ⟨_, rfl, by rw [if_pos (by omega)], fun _ => by unfold ttT; rw [if_neg (by omega), if_neg (by omega), if_neg (by omega), if_neg (by omega)]⟩ | exact ⟨_, rfl, by rw [if_neg (by omega)], fun h => absurd h (by omega)⟩)
      · skip
        refine V_aload_n (pc := 213) dX5_tryThing_213 rfl ?_
        refine G_X5_now (pc := 214) (by first | rfl | assumption) fl_X5_25 dX5_tryThing_214 ?_
        refine V_bipush (pc := 217) 38 dX5_tryThing_217 (by decide) ?_
        refine V_iconst (pc := 219) 5 dX5_tryThing_219 (by decide) ?_
        refine V_iload_n (pc := 220) dX5_tryThing_220 rfl ?_
        refine V_imul (pc := 221) dX5_tryThing_221 ?_
        refine V_iadd (pc := 222) dX5_tryThing_222 ?_
        refine V_iload_n (pc := 223) dX5_tryThing_223 rfl ?_
        refine V_bipush (pc := 224) 10 dX5_tryThing_224 (by decide) ?_
        refine V_idiv (pc := 226) dX5_tryThing_226 (by first | omega | assumption | exact and1_lt _ | exact nb_p) (by first | omega | assumption | exact and1_lt _ | exact nb_p) (by first | omega | assumption | exact and1_lt _ | exact nb_p) ?_
        refine V_iadd (pc := 227) dX5_tryThing_227 ?_
        refine V_iald (pc := 228) (by first | rfl | assumption) (by first | omega | assumption | exact and1_lt _ | exact nb_p) dX5_tryThing_228 ?_
        rw [stM_g38]
        have hkl := hp.2.2 (5 * a + r / 10) (by omega)
        rw [show 6 + (5 * a + r / 10) = 6 + 5 * a + r / 10 by omega] at hkl
        refine V_iload_n (pc := 229) dX5_tryThing_229 rfl ?_
        refine V_bipush (pc := 230) 10 dX5_tryThing_230 (by decide) ?_
        refine V_irem (pc := 232) dX5_tryThing_232 (by first | omega | assumption | exact and1_lt _ | exact nb_p) (by first | omega | assumption | exact and1_lt _ | exact nb_p) (by first | omega | assumption | exact and1_lt _ | exact nb_p) ?_
        refine V_icmp_lt (pc := 233) 240 dX5_tryThing_233 (by decide) (by first | omega | assumption | exact and1_lt _ | exact nb_p) (by first | omega | assumption | exact and1_lt _ | exact nb_p) (fun h_233 => ?_) (fun h_233 => ?_)
        · skip
          refine V_iconst (pc := 240) 0 dX5_tryThing_240 (by decide) ?_
          exact hret _ _ _ _ dX5_tryThing_241 (by first | decide | omega | (split <;> omega)) (by first | exact ⟨_, rfl, by rw [if_pos (by omega)], fun _ => by unfold ttT; rw [if_neg (by omega), if_neg (by omega), if_neg (by omega), if_neg (by omega)]⟩ | exact ⟨_, rfl, by rw [if_neg (by omega)], fun h => absurd h (by omega)⟩)
        · skip
          refine V_iconst (pc := 236) 1 dX5_tryThing_236 (by decide) ?_
          refine V_goto (pc := 237) 241 dX5_tryThing_237 (by decide) ?_
          exact hret _ _ _ _ dX5_tryThing_241 (by first | decide | omega | (split <;> omega)) (by first | exact ⟨_, rfl, by rw [if_pos (by omega)], fun _ => by unfold ttT; rw [if_neg (by omega), if_neg (by omega), if_neg (by omega), if_neg (by omega)]⟩ | exact ⟨_, rfl, by rw [if_neg (by omega)], fun h => absurd h (by omega)⟩)
  refine V_tabO (pc := 1) 242 dX5_tryThing_1 (by first | omega | assumption | exact and1_lt _ | exact nb_p) (by omega) (by decide) (by decide) ?_
  refine V_iconst (pc := 242) 0 dX5_tryThing_242 (by decide) ?_
  exact hret _ _ _ _ dX5_tryThing_243 (by first | decide | omega | (split <;> omega)) ⟨_, rfl, by rw [if_neg (by omega)], fun h => absurd h (by omega)⟩
def fgr (n r k : Nat) : Nat := r / 10000 ^ (n - 1 - k) % 10000
def juF (K : St) (n r : Nat) : Nat → Nat → (Nat → Nat) → Nat
  | 0, _, _ => 4294967287
  | f + 1, k, T => if ttB K T (fgr n r k / 1000) (fgr n r k / 100 % 10) (fgr n r k % 100) then juF K n r f (k + 1) (ttT K T (fgr n r k / 1000) (fgr n r k / 100 % 10) (fgr n r k % 100)) else k
theorem juF_step {K : St} {n r k : Nat} {T : Nat → Nat} (h : k < n) : juF K n r (n - k) k T = if ttB K T (fgr n r k / 1000) (fgr n r k / 100 % 10) (fgr n r k % 100) then juF K n r (n - (k + 1)) (k + 1) (ttT K T (fgr n r k / 1000) (fgr n r k / 100 % 10) (fgr n r k % 100)) else k := by
  obtain ⟨f, hf⟩ : ∃ f, n - k = f + 1 := ⟨n - k - 1, by omega⟩
  rw [hf, show n - (k + 1) = f by omega]
  rfl
theorem unl_s (P : Nat → Nat) (c n : Nat) : unl P c (n + 1) = fup (unl P c n) (6 + 5 * c + n) 0 := rfl
theorem OKP_unl {P : Nat → Nat} (h : OKP P) (c : Nat) : ∀ n, OKP (unl P c n)
  | 0 => h
  | n + 1 => by rw [unl_s]; exact OKP_fup (OKP_unl h c n) (by omega) (by omega) (by omega)
theorem unl_o {P : Nat → Nat} {c j : Nat} : ∀ {n : Nat}, (j < 6 + 5 * c ∨ 6 + 5 * c + n ≤ j) → unl P c n j = P j
  | 0, _ => rfl
  | n + 1, h => by rw [unl_s, fup_o (by omega), unl_o (by omega)]
theorem PEq_unl {nC : Nat} {P P' : Nat → Nat} (h : PEq nC P P') (c : Nat) : ∀ n, PEq nC (unl P c n) (unl P' c n)
  | 0 => h
  | n + 1 => by rw [unl_s, unl_s]; exact (PEq_unl h c n).up rfl
theorem OKP_ttT {K : St} (o : OKK K) {T : Nat → Nat} {how a r : Nat} (hp : OKP T) (h : ttB K T how a r) : OKP (ttT K T how a r) := by
  have o2 := o.2.2.1
  unfold ttT
  split
  · exact OKP_psn o hp _ _
  · split
    · exact OKP_fup hp (by omega) (by omega) (by omega)
    · split
      · exact OKP_fup hp (by omega) (fun _ => xor_lt hp.2.1 (by omega)) (by omega)
      · split
        · exact OKP_unl hp _ _
        · exact hp
theorem ttT_31 {K : St} (o : OKK K) {T : Nat → Nat} {how a r : Nat} (h : ttB K T how a r) : ttT K T how a r 31 ≤ T 31 + 1 := by
  have o2 := o.2.2.1
  unfold ttT
  split
  · rw [pd, psn_31 o]; omega
  · split
    · rw [fup_o (by omega)]; omega
    · split
      · rw [fup_o (by omega)]; omega
      · split
        · rw [unl_o (by omega)]; omega
        · omega
theorem ttB_cong {K : St} (o : OKK K) {T T' : Nat → Nat} (h : PEq (K 0 2) T T') (how a r : Nat) : ttB K T how a r ↔ ttB K T' how a r := by
  have o2 := o.2.2.1
  have e1 : a < K 0 2 → T a = T' a := h.1 a
  have e2 : r < K 0 2 → wtF T r 5 = wtF T' r 5 := fun q => wtF_cong h (by omega) 5 (by omega)
  have e3 : a < K 0 2 → r / 10 < 5 → T (6 + 5 * a + r / 10) = T' (6 + 5 * a + r / 10) := fun q1 q2 => h.2 _ (by omega) (by omega)
  unfold ttB
  constructor
  · rintro (q | q | q | q | q)
    · exact Or.inl q
    · exact Or.inr (Or.inl (by rw [← e1 q.2.1]; exact q))
    · exact Or.inr (Or.inr (Or.inl q))
    · exact Or.inr (Or.inr (Or.inr (Or.inl (by rw [← e2 q.2.2.1]; exact q))))
    · exact Or.inr (Or.inr (Or.inr (Or.inr (by rw [← e3 q.2.1 q.2.2.1]; exact q))))
  · rintro (q | q | q | q | q)
    · exact Or.inl q
    · exact Or.inr (Or.inl (by rw [e1 q.2.1]; exact q))
    · exact Or.inr (Or.inr (Or.inl q))
    · exact Or.inr (Or.inr (Or.inr (Or.inl (by rw [e2 q.2.2.1]; exact q))))
    · exact Or.inr (Or.inr (Or.inr (Or.inr (by rw [e3 q.2.1 q.2.2.1]; exact q))))
theorem PEq_ttT {K : St} (o : OKK K) {T T' : Nat → Nat} (h : PEq (K 0 2) T T') (how a r : Nat) : PEq (K 0 2) (ttT K T how a r) (ttT K T' how a r) := by
  unfold ttT
  split
  · exact PEq_pd o h 63
  · split
    · exact h.up rfl
    · split
      · exact h.up (by rw [h.2 5 (by omega) (by omega)])
      · split
        · exact PEq_unl h _ _
        · exact h
theorem juF_cong {K : St} (o : OKK K) (n r : Nat) : ∀ (f k : Nat) {T T' : Nat → Nat}, PEq (K 0 2) T T' → juF K n r f k T = juF K n r f k T'
  | 0, _, _, _, _ => rfl
  | f + 1, k, T, T', h => by
    unfold juF
    by_cases hb : ttB K T (fgr n r k / 1000) (fgr n r k / 100 % 10) (fgr n r k % 100)
    · rw [if_pos hb, if_pos ((ttB_cong o h _ _ _).mp hb)]
      exact juF_cong o n r f (k + 1) (PEq_ttT o h _ _ _)
    · rw [if_neg hb, if_neg (fun q => hb ((ttB_cong o h _ _ _).mpr q))]
def juM (σ : St) (n r : Nat) : Nat := if (1 ≤ n ∧ n ≤ 4) ∧ r < 10000 ^ n then juF σ n r n 0 (pM σ 0) else 4294967294
theorem lN_neg {r : Nat} (h : 2 ^ 63 ≤ r) (h2 : r < 2 ^ 64) : (lN r).toInt = (r : Int) - 2 ^ 64 := by
  show (BitVec.ofNat 64 r).toInt = _
  rw [BitVec.toInt_eq_toNat_cond, BitVec.toNat_ofNat, Nat.mod_eq_of_lt h2]
  rw [if_neg (by omega)]
  rfl
theorem lN_0le {r : Nat} (h2 : r < 2 ^ 64) : lN 0 ≤ lN r ↔ r < 2 ^ 63 := by
  rw [Int64.le_iff_toInt_le, lN_toInt (by decide)]
  by_cases h : r < 2 ^ 63
  · rw [pk_lT h]; omega
  · rw [lN_neg (by omega) h2]; omega
theorem pow4 {n : Nat} (h : n ≤ 4) : 10000 ^ n ≤ 10000 ^ 4 := Nat.pow_le_pow_right (by decide) h
theorem pow4p (n : Nat) : 0 < 10000 ^ n := Nat.pow_pos (by decide)
theorem lN_ne0 {n : Nat} (h0 : 0 < n) (h : n < 2 ^ 63) : ¬ lN n = 0 := by
  intro q
  have := (pk_lEQ h (b := 0) (by decide)).mp q
  omega
set_option maxHeartbeats 4000000 in
set_option maxRecDepth 100000 in
theorem c_X5_judge {B : Bk} {σ : St} {n r : Nat} (hn : n < 2 ^ 32) (hr : r < 2 ^ 64) (g : GM σ) : MC yX5_judge cX5_judge 6 (some .int) 5 B [.ref (B.1 0), .int (nI n), .long (lN r)] σ (rI (juM σ n r) (TR σ)) := by
  obtain ⟨o, ht, hp, hd⟩ := g
  obtain ⟨o0, o1, o2, o3, o4, o5⟩ := id o
  have ht64 : σ 0 20 < 64 := by omega
  have hTP : PEq (σ 0 2) (cp32 (pM σ 0) (pM σ 1)) (pM σ 0) := cp_PEq _ o2 _ _
  have hTO : OKP (cp32 (pM σ 0) (pM σ 1)) := cp_OKP hp _
  have hT31 : (cp32 (pM σ 0) (pM σ 1)) 31 = pM σ 0 31 := cp_lt (by decide)
  refine MC_int RX5 [some (.ref (B.1 0)), some (.int (nI n)), some (.long (lN r)), none, none, none] 2 (by decide +kernel) rfl rfl (Nat.le_of_ble_eq_true rfl) (fun E Q hret => ?_)
  refine V_iload_n (pc := 0) dX5_judge_0 rfl ?_
  refine V_i2l (pc := 1) dX5_judge_1 rfl ?_
  refine V_lconst (pc := 2) (v := lN 1) dX5_judge_2 rfl ?_
  refine V_ldc2N (pc := 3) (m := 4) kl_X5_120 rfl dX5_judge_3 ?_
  refine V_callS_I (pc := 6) ff_X5_in ml_X5_65 (c_X5_inI (by first | omega | assumption | exact and1_lt _ | exact nb_p) (by decide) (by decide)) dX5_judge_6 rfl rfl (by decide) (by decide) (Nat.le_of_ble_eq_true rfl) ?_
  refine V_ifb_eq (pc := 9) 30 dX5_judge_9 (by decide) (fun h_9 => ?_) (fun h_9 => ?_)
  · skip
    refine V_bipush (pc := 30) 4294967294 dX5_judge_30 (by decide) ?_
    exact hret _ _ _ _ dX5_judge_32 (rI_mk (by unfold juM; rw [if_neg (by first | (intro q; omega) | (intro q; exact h_9 q.1) | (intro q; have := pow4 q.1.2; omega))]) (TR.rf σ))
  · skip
    refine V_lload_n (pc := 12) dX5_judge_12 rfl ?_
    refine V_lconst (pc := 13) (v := lN 0) dX5_judge_13 rfl ?_
    refine V_lcmp (pc := 14) dX5_judge_14 ?_
    refine V_ifR_lt (pc := 15) 30 dX5_judge_15 (by decide) (fun h_15 => ?_) (fun h_15 => ?_)
    · skip
      have hneg : ¬ r < 2 ^ 63 := fun q => cmp_lt h_15 ((lN_0le hr).mpr q)
      refine V_bipush (pc := 30) 4294967294 dX5_judge_30 (by decide) ?_
      exact hret _ _ _ _ dX5_judge_32 (rI_mk (by unfold juM; rw [if_neg (by first | (intro q; omega) | (intro q; exact h_9 q.1) | (intro q; have := pow4 q.1.2; omega))]) (TR.rf σ))
    · skip
      have hpos : r < 2 ^ 63 := (lN_0le hr).mp (cmp_nlt h_15)
      have hp4 := pow4 h_9.2
      refine V_lload_n (pc := 18) dX5_judge_18 rfl ?_
      refine V_ldc2N (pc := 19) (m := 10000) kl_X5_196 rfl dX5_judge_19 ?_
      refine V_iload_n (pc := 22) dX5_judge_22 rfl ?_
      refine V_callS_J (pc := 23) ff_X5_longPower ml_X5_198 (c_X5_longPower (by first | omega | assumption)) dX5_judge_23 rfl rfl (by decide) (by decide) (Nat.le_of_ble_eq_true rfl) ?_
      refine V_lcmp (pc := 26) dX5_judge_26 ?_
      refine V_ifR_lt (pc := 27) 33 dX5_judge_27 (by decide) (fun h_27 => ?_) (fun h_27 => ?_)
      · skip
        have hlt : r < 10000 ^ n := by
          have := cmp_lt h_27
          rw [pk_lLE (by omega) (by omega)] at this
          omega
        refine V_aload_n (pc := 33) dX5_judge_33 rfl ?_
        refine V_callV_V (pc := 34) ff_X5_layTrial ml_X5_180 (by first | rfl | assumption) rfl rfl (c_X5_layTrial) dX5_judge_34 rfl rfl (by decide) (by decide) (Nat.le_of_ble_eq_true rfl) ?_
        refine V_iconst (pc := 37) 0 dX5_judge_37 (by decide) ?_
        refine V_istore (pc := 38) dX5_judge_38 (by decide) rfl ?_
        have L_40 : ∀ (m : Nat) (i : Nat) (z : Option Value) (T : Nat → Nat), n - i = m → i ≤ n → OKP T → T 31 ≤ pM σ 0 31 + i → juM σ n r = juF σ n r (n - i) i T → V E B RX5 cX5_judge 6 5 Q 40 [some (.ref (B.1 0)), some (.int (nI n)), some (.long (lN r)), none, some (.int (nI i)), z] [] (stM σ 1 T) := by
          intro m
          induction m using Nat.strongRecOn with
          | _ m ih =>
            intro i z T hm hi hpT hd2 hj
            refine V_iload (pc := 40) dX5_judge_40 rfl ?_
            refine V_iload_n (pc := 42) dX5_judge_42 rfl ?_
            refine V_icmp_ge (pc := 43) 102 dX5_judge_43 (by decide) (by first | omega | assumption | exact and1_lt _ | exact nb_p) (by first | omega | assumption | exact and1_lt _ | exact nb_p) (fun h_43 => ?_) (fun h_43 => ?_)
            · skip
              refine V_bipush (pc := 102) 4294967287 dX5_judge_102 (by decide) ?_
              exact hret _ _ _ _ dX5_judge_104 (rI_mk (by rw [hj, show n - i = 0 by omega]; rfl) ⟨_, rfl⟩)
            · skip
              refine V_lload_n (pc := 46) dX5_judge_46 rfl ?_
              refine V_ldc2N (pc := 47) (m := 10000) kl_X5_196 rfl dX5_judge_47 ?_
              refine V_iload_n (pc := 50) dX5_judge_50 rfl ?_
              refine V_iconst (pc := 51) 1 dX5_judge_51 (by decide) ?_
              refine V_isub (pc := 52) dX5_judge_52 (by omega) ?_
              refine V_iload (pc := 53) dX5_judge_53 rfl ?_
              refine V_isub (pc := 55) dX5_judge_55 (by omega) ?_
              refine V_callS_J (pc := 56) ff_X5_longPower ml_X5_198 (c_X5_longPower (n := n - 1 - i) (by omega)) dX5_judge_56 rfl rfl (by decide) (by decide) (Nat.le_of_ble_eq_true rfl) ?_
              have hp5 := pow4 (show n - 1 - i ≤ 4 by omega)
              have hp6 := pow4p (n - 1 - i)
              refine V_ldiv (pc := 59) dX5_judge_59 (lN_ne0 (by omega) (by omega)) (pk_lDiv (by omega) (by omega) (by omega)) ?_
              refine V_ldc2N (pc := 60) (m := 10000) kl_X5_196 rfl dX5_judge_60 ?_
              have hdl := Nat.div_le_self r (10000 ^ (n - 1 - i))
              refine V_lrem (pc := 63) dX5_judge_63 (lN_ne0 (by decide) (by decide)) (pk_lRem (by omega) (by decide) (by decide)) ?_
              refine V_l2i (pc := 64) dX5_judge_64 (lN_i _) ?_
              have hf : fgr n r i < 10000 := Nat.mod_lt _ (by decide)
              rw [show r / 10000 ^ (n - 1 - i) % 10000 = fgr n r i from rfl]
              refine V_istore (pc := 65) dX5_judge_65 (by decide) rfl ?_
              refine V_aload_n (pc := 67) dX5_judge_67 rfl ?_
              refine V_iload (pc := 68) dX5_judge_68 rfl ?_
              refine V_sipush (pc := 70) 1000 dX5_judge_70 (by decide) ?_
              refine V_idiv (pc := 73) dX5_judge_73 (by first | omega | assumption | exact and1_lt _ | exact nb_p) (by first | omega | assumption | exact and1_lt _ | exact nb_p) (by first | omega | assumption | exact and1_lt _ | exact nb_p) ?_
              refine V_iload (pc := 74) dX5_judge_74 rfl ?_
              refine V_bipush (pc := 76) 100 dX5_judge_76 (by decide) ?_
              refine V_idiv (pc := 78) dX5_judge_78 (by first | omega | assumption | exact and1_lt _ | exact nb_p) (by first | omega | assumption | exact and1_lt _ | exact nb_p) (by first | omega | assumption | exact and1_lt _ | exact nb_p) ?_
              refine V_bipush (pc := 79) 10 dX5_judge_79 (by decide) ?_
              refine V_irem (pc := 81) dX5_judge_81 (by first | omega | assumption | exact and1_lt _ | exact nb_p) (by first | omega | assumption | exact and1_lt _ | exact nb_p) (by first | omega | assumption | exact and1_lt _ | exact nb_p) ?_
              refine V_iload (pc := 82) dX5_judge_82 rfl ?_
              refine V_bipush (pc := 84) 100 dX5_judge_84 (by decide) ?_
              refine V_irem (pc := 86) dX5_judge_86 (by first | omega | assumption | exact and1_lt _ | exact nb_p) (by first | omega | assumption | exact and1_lt _ | exact nb_p) (by first | omega | assumption | exact and1_lt _ | exact nb_p) ?_
              refine V_callV (pc := 87) ff_X5_tryThing ml_X5_202 (by first | rfl | assumption) rfl rfl (c_X5_tryThing (by omega) (by omega) (by omega) o ht hpT (by omega)) dX5_judge_87 rfl rfl (by decide) (by decide) (Nat.le_of_ble_eq_true rfl) (fun v u hu => ?_)
              obtain ⟨T2, rfl, rfl, hT2⟩ := hu
              simp only [Option.toList, List.cons_append, List.nil_append]
              refine V_ifb_ne (pc := 90) 96 dX5_judge_90 (by decide) (fun h_90 => ?_) (fun h_90 => ?_)
              · skip
                rw [hT2 h_90]
                refine V_iinc (pc := 96) 1 dX5_judge_96 (by decide) rfl (by decide) rfl ?_
                refine V_goto (pc := 99) 40 dX5_judge_99 (by decide) ?_
                exact ih _ (by omega) (i + 1) _ _ rfl (by omega) (OKP_ttT o hpT h_90) (by have := ttT_31 o h_90; omega) (by rw [hj, juF_step (by omega), if_pos h_90])
              · skip
                refine V_iload (pc := 93) dX5_judge_93 rfl ?_
                exact hret _ _ _ _ dX5_judge_95 (rI_mk (by rw [hj, juF_step (by omega), if_neg h_90]) ⟨_, rfl⟩)
        exact L_40 _ 0 none _ rfl (by omega) hTO (by omega) (by unfold juM; rw [if_pos ⟨h_9, by omega⟩, Nat.sub_zero]; exact (juF_cong o n r n 0 hTP).symm)
      · skip
        have hge : ¬ r < 10000 ^ n := by
          have := cmp_nlt h_27
          rw [pk_lLE (by omega) (by omega)] at this
          omega
        refine V_bipush (pc := 30) 4294967294 dX5_judge_30 (by decide) ?_
        exact hret _ _ _ _ dX5_judge_32 (rI_mk (by unfold juM; rw [if_neg (by first | (intro q; omega) | (intro q; exact h_9 q.1) | (intro q; have := pow4 q.1.2; omega))]) (TR.rf σ))
