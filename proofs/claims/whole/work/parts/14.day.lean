/-! a day of the model -/
theorem dri_s (w : Nat) (P : Nat → Nat) (n : Nat) : dri w P (n + 1) = fup (dri w P n) n (if (P 5).testBit n = true then P n else onw (P n) w) := rfl
theorem dri_o {w : Nat} {P : Nat → Nat} : ∀ {n j : Nat}, n ≤ j → dri w P n j = P j
  | 0, _, _ => rfl
  | n + 1, j, h => by rw [dri_s, fup_o (by omega), dri_o (by omega)]
theorem lrF_s (K : St) (th : Nat) (P : Nat → Nat) (n : Nat) : lrF K th P (n + 1) = lrn K th n (lrF K th P n) := rfl
theorem OKP_fup {P : Nat → Nat} (h : OKP P) {i x : Nat} (h1 : i < 5 → x < 12) (h2 : i = 5 → x < 32) (h3 : 6 ≤ i → i < 31 → x ≤ 9) : OKP (fup P i x) := by
  refine ⟨fun j hj => ?_, ?_, fun j hj => ?_⟩
  · by_cases e : j = i
    · rw [e, fup_s]; exact h1 (by omega)
    · rw [fup_o e]; exact h.1 j hj
  · by_cases e : 5 = i
    · rw [e, fup_s]; exact h2 e.symm
    · rw [fup_o e]; exact h.2.1
  · by_cases e : 6 + j = i
    · rw [e, fup_s]; exact h3 (by omega) (by omega)
    · rw [fup_o e]; exact h.2.2 j hj
theorem OKP_dri {P : Nat → Nat} (h : OKP P) (w : Nat) : ∀ {n : Nat}, n ≤ 5 → OKP (dri w P n)
  | 0, _ => h
  | n + 1, hn => by
    rw [dri_s]
    refine OKP_fup (OKP_dri h w (by omega)) (fun _ => ?_) (by omega) (by omega)
    split
    · exact h.1 n (by omega)
    · exact onw_lt (h.1 n (by omega))
theorem OKP_lrn {K : St} (o : OKK K) {P : Nat → Nat} (h : OKP P) {th c : Nat} (hc : c < K 0 2) : OKP (lrn K th c P) := by
  obtain ⟨o0, o1, o2, o3, o4, o5⟩ := id o
  unfold lrn
  split
  · rename_i hm
    have hg : grA K th (P c) < K 0 1 := by
      rcases grA_or o th (P c) with e | e
      · exact absurd e hm.1
      · exact e
    have h3 := (o4 _ hg).2.1
    refine OKP_fup h (by omega) (by omega) (fun _ _ => tgh_le ?_)
    have := h.2.2 (5 * c + K 3 (grA K th (P c))) (by omega)
    rw [show 6 + (5 * c + K 3 (grA K th (P c))) = 6 + 5 * c + K 3 (grA K th (P c)) by omega] at this
    exact this
  · exact h
theorem lrn_o {K : St} (o : OKK K) {P : Nat → Nat} {th c j : Nat} (hc : c < K 0 2) (hj : j < 6 ∨ 31 ≤ j) : lrn K th c P j = P j := by
  obtain ⟨o0, o1, o2, o3, o4, o5⟩ := id o
  unfold lrn
  split
  · rename_i hm
    have hg : grA K th (P c) < K 0 1 := by
      rcases grA_or o th (P c) with e | e
      · exact absurd e hm.1
      · exact e
    have h3 := (o4 _ hg).2.1
    exact fup_o (by omega)
  · rfl
theorem OKP_lrF {K : St} (o : OKK K) {P : Nat → Nat} (h : OKP P) (th : Nat) : ∀ {n : Nat}, n ≤ K 0 2 → OKP (lrF K th P n)
  | 0, _ => h
  | n + 1, hn => by rw [lrF_s]; exact OKP_lrn o (OKP_lrF o h th (by omega)) (by omega)
theorem lrF_o {K : St} (o : OKK K) {P : Nat → Nat} {th j : Nat} (hj : j < 6 ∨ 31 ≤ j) : ∀ {n : Nat}, n ≤ K 0 2 → lrF K th P n j = P j
  | 0, _ => rfl
  | n + 1, hn => by rw [lrF_s, lrn_o o (by omega) hj, lrF_o o hj (by omega)]
theorem OKP_psn {K : St} (o : OKK K) {P : Nat → Nat} (h : OKP P) (w th : Nat) : OKP (psn K w th P) := by
  unfold psn
  exact OKP_fup (OKP_lrF o (OKP_dri h w o.2.2.1) th (Nat.le_refl _)) (by omega) (by omega) (by omega)
theorem psn_31 {K : St} (o : OKK K) (P : Nat → Nat) (w th : Nat) : psn K w th P 31 = P 31 + 1 := by
  unfold psn ps2
  rw [fup_s, lrF_o o (by omega) (Nat.le_refl _), dri_o (by have := o.2.2.1; omega)]
theorem grA_lt {K : St} (o : OKK K) (th cell : Nat) : grA K th cell < 2 ^ 32 := by
  have := o.2.1
  rcases grA_or o th cell with h | h <;> omega
set_option maxHeartbeats 4000000 in
set_option maxRecDepth 100000 in
theorem c_X5_learn {B : Bk} {σ : St} {L c : Nat} (o : OKK σ) (ht : σ 0 20 < 64) (hL : L < 2) (hc : c < σ 0 2) (hp : OKP (pM σ L)) (hd : pM σ L 31 < 2 ^ 31) : MC yX5_learn cX5_learn 7 none 2 B [.ref (B.1 0), .int (nI L), .int (nI c)] σ (dV (stM σ L (lrn σ (σ 0 20) c (pM σ L)))) := by
  obtain ⟨o0, o1, o2, o3, o4, o5⟩ := id o
  refine MC_void RX5 [some (.ref (B.1 0)), some (.int (nI L)), some (.int (nI c)), none, none, none, none] 4 (by decide +kernel) rfl rfl (Nat.le_of_ble_eq_true rfl) (fun E Q hret => ?_)
  have hcl : σ 6 (32 * L + c) < 12 := hp.1 c (by omega)
  have hk := o5 c hc
  have hgl := grA_lt o (σ 0 20) (σ 6 (32 * L + c))
  have htg := tog_le (pM σ L) (σ 6 (32 * L + c)) (σ 0 2)
  have hd31 : σ 6 (32 * L + 31) < 2 ^ 31 := hd
  have J_83 : ∀ (b : Nat), (b = 1 ∧ grA σ (σ 0 20) (σ 6 (32 * L + c)) ≠ 4294967287 ∧ (σ 5 c = 2 → σ 6 (32 * L + 31) % 2 = 1) ∧ (σ 5 c = 3 → tog (pM σ L) (σ 6 (32 * L + c)) (σ 0 2) = 1)) ∨ (b = 0 ∧ ¬ (grA σ (σ 0 20) (σ 6 (32 * L + c)) ≠ 4294967287 ∧ (σ 5 c = 2 → σ 6 (32 * L + 31) % 2 = 1) ∧ (σ 5 c = 3 → tog (pM σ L) (σ 6 (32 * L + c)) (σ 0 2) = 1))) → V E B RX5 cX5_learn 7 2 Q 83 [some (.ref (B.1 0)), some (.int (nI L)), some (.int (nI c)), some (.int (nI (32 * L))), some (.int (nI (grA σ (σ 0 20) (σ 6 (32 * L + c))))), none, none] [.int (nI b)] (σ) := by
    intro b hb
    refine V_istore (pc := 83) dX5_learn_83 (by decide) rfl ?_
    refine V_iload (pc := 85) dX5_learn_85 rfl ?_
    refine V_if_eq (pc := 87) 147 dX5_learn_87 (by decide) (by omega) (fun h_87 => ?_) (fun h_87 => ?_)
    · skip
      have hn : ¬ may σ (σ 0 20) c (pM σ L) := by
        rcases hb with h | h
        · omega
        · exact h.2
      exact hret _ _ _ dX5_learn_147 (dV_mk (by first | (unfold lrn; rw [if_neg hn, stM_self]) | (unfold lrn; rw [if_pos hm, ← stM_put, stM_self, show 32 * L + (6 + 5 * c + σ 3 (grA σ (σ 0 20) (pM σ L c))) = 32 * L + 6 + 5 * c + σ 3 (grA σ (σ 0 20) (pM σ L c)) by omega, show pM σ L (6 + 5 * c + σ 3 (grA σ (σ 0 20) (pM σ L c))) = σ 6 (32 * L + 6 + 5 * c + σ 3 (grA σ (σ 0 20) (pM σ L c))) from congrArg (σ 6) (by omega)]; first | (rw [if_pos h_135]; rfl) | (rw [if_neg h_135]; rfl))))
    · skip
      have hm : may σ (σ 0 20) c (pM σ L) := by
        rcases hb with h | h
        · exact h.2
        · omega
      have hg : grA σ (σ 0 20) (σ 6 (32 * L + c)) < σ 0 1 := by
        rcases grA_or o (σ 0 20) (σ 6 (32 * L + c)) with e | e
        · exact absurd e hm.1
        · exact e
      have h4 := o4 _ hg
      have hkn := hp.2.2 (5 * c + σ 3 (grA σ (σ 0 20) (σ 6 (32 * L + c)))) (by omega)
      rw [show pM σ L (6 + (5 * c + σ 3 (grA σ (σ 0 20) (σ 6 (32 * L + c))))) = σ 6 (32 * L + 6 + 5 * c + σ 3 (grA σ (σ 0 20) (σ 6 (32 * L + c)))) from congrArg (σ 6) (by omega)] at hkn
      refine V_iload_n (pc := 90) dX5_learn_90 rfl ?_
      refine V_bipush (pc := 91) 6 dX5_learn_91 (by decide) ?_
      refine V_iadd (pc := 93) dX5_learn_93 ?_
      refine V_iconst (pc := 94) 5 dX5_learn_94 (by decide) ?_
      refine V_iload_n (pc := 95) dX5_learn_95 rfl ?_
      refine V_imul (pc := 96) dX5_learn_96 ?_
      refine V_iadd (pc := 97) dX5_learn_97 ?_
      refine V_aload_n (pc := 98) dX5_learn_98 rfl ?_
      refine G_X5_groundSubject (pc := 99) (by first | rfl | assumption) fl_X5_16 dX5_learn_99 ?_
      refine V_iload (pc := 102) dX5_learn_102 rfl ?_
      refine V_iald (pc := 104) (by first | rfl | assumption) (by first | omega | assumption | exact and1_lt _ | exact nb_p) dX5_learn_104 ?_
      refine V_iadd (pc := 105) dX5_learn_105 ?_
      refine V_istore (pc := 106) dX5_learn_106 (by decide) rfl ?_
      refine V_aload_n (pc := 108) dX5_learn_108 rfl ?_
      refine G_X5_now (pc := 109) (by first | rfl | assumption) fl_X5_25 dX5_learn_109 ?_
      refine V_iload (pc := 112) dX5_learn_112 rfl ?_
      refine V_aload_n (pc := 114) dX5_learn_114 rfl ?_
      refine G_X5_groundKind (pc := 115) (by first | rfl | assumption) fl_X5_19 dX5_learn_115 ?_
      refine V_iload (pc := 118) dX5_learn_118 rfl ?_
      refine V_iald (pc := 120) (by first | rfl | assumption) (by first | omega | assumption | exact and1_lt _ | exact nb_p) dX5_learn_120 ?_
      refine V_aload_n (pc := 121) dX5_learn_121 rfl ?_
      refine G_X5_now (pc := 122) (by first | rfl | assumption) fl_X5_25 dX5_learn_122 ?_
      refine V_iload (pc := 125) dX5_learn_125 rfl ?_
      refine V_iald (pc := 127) (by first | rfl | assumption) (by first | omega | assumption | exact and1_lt _ | exact nb_p) dX5_learn_127 ?_
      refine V_aload_n (pc := 128) dX5_learn_128 rfl ?_
      refine G_X5_kind (pc := 129) (by first | rfl | assumption) fl_X5_22 dX5_learn_129 ?_
      refine V_iload_n (pc := 132) dX5_learn_132 rfl ?_
      refine V_iald (pc := 133) (by first | rfl | assumption) (by first | omega | assumption | exact and1_lt _ | exact nb_p) dX5_learn_133 ?_
      refine V_iconst (pc := 134) 1 dX5_learn_134 (by decide) ?_
      refine V_icmp_ne (pc := 135) 142 dX5_learn_135 (by decide) (by first | omega | assumption | exact and1_lt _ | exact nb_p) (by first | omega | assumption | exact and1_lt _ | exact nb_p) (fun h_135 => ?_) (fun h_135 => ?_)
      · skip
        refine V_iconst (pc := 142) 0 dX5_learn_142 (by decide) ?_
        refine V_callS_I (pc := 143) ff_X5_taught ml_X5_129 (c_X5_taught (by first | omega | assumption) (by first | omega | assumption) (by first | omega | assumption)) dX5_learn_143 rfl rfl (by decide) (by decide) (Nat.le_of_ble_eq_true rfl) ?_
        refine V_iast (pc := 146) (by first | rfl | assumption) (by first | omega | assumption | exact and1_lt _ | exact nb_p) dX5_learn_146 ?_
        exact hret _ _ _ dX5_learn_147 (dV_mk (by first | (unfold lrn; rw [if_neg hn, stM_self]) | (unfold lrn; rw [if_pos hm, ← stM_put, stM_self, show 32 * L + (6 + 5 * c + σ 3 (grA σ (σ 0 20) (pM σ L c))) = 32 * L + 6 + 5 * c + σ 3 (grA σ (σ 0 20) (pM σ L c)) by omega, show pM σ L (6 + 5 * c + σ 3 (grA σ (σ 0 20) (pM σ L c))) = σ 6 (32 * L + 6 + 5 * c + σ 3 (grA σ (σ 0 20) (pM σ L c))) from congrArg (σ 6) (by omega)]; first | (rw [if_pos h_135]; rfl) | (rw [if_neg h_135]; rfl))))
      · skip
        refine V_iconst (pc := 138) 1 dX5_learn_138 (by decide) ?_
        refine V_goto (pc := 139) 143 dX5_learn_139 (by decide) ?_
        refine V_callS_I (pc := 143) ff_X5_taught ml_X5_129 (c_X5_taught (by first | omega | assumption) (by first | omega | assumption) (by first | omega | assumption)) dX5_learn_143 rfl rfl (by decide) (by decide) (Nat.le_of_ble_eq_true rfl) ?_
        refine V_iast (pc := 146) (by first | rfl | assumption) (by first | omega | assumption | exact and1_lt _ | exact nb_p) dX5_learn_146 ?_
        exact hret _ _ _ dX5_learn_147 (dV_mk (by first | (unfold lrn; rw [if_neg hn, stM_self]) | (unfold lrn; rw [if_pos hm, ← stM_put, stM_self, show 32 * L + (6 + 5 * c + σ 3 (grA σ (σ 0 20) (pM σ L c))) = 32 * L + 6 + 5 * c + σ 3 (grA σ (σ 0 20) (pM σ L c)) by omega, show pM σ L (6 + 5 * c + σ 3 (grA σ (σ 0 20) (pM σ L c))) = σ 6 (32 * L + 6 + 5 * c + σ 3 (grA σ (σ 0 20) (pM σ L c))) from congrArg (σ 6) (by omega)]; first | (rw [if_pos h_135]; rfl) | (rw [if_neg h_135]; rfl))))
  refine V_bipush (pc := 0) 32 dX5_learn_0 (by decide) ?_
  refine V_iload_n (pc := 2) dX5_learn_2 rfl ?_
  refine V_imul (pc := 3) dX5_learn_3 ?_
  refine V_istore_n (pc := 4) dX5_learn_4 (by decide) rfl ?_
  refine V_aload_n (pc := 5) dX5_learn_5 rfl ?_
  refine V_aload_n (pc := 6) dX5_learn_6 rfl ?_
  refine G_X5_now (pc := 7) (by first | rfl | assumption) fl_X5_25 dX5_learn_7 ?_
  refine V_iload_n (pc := 10) dX5_learn_10 rfl ?_
  refine V_iload_n (pc := 11) dX5_learn_11 rfl ?_
  refine V_iadd (pc := 12) dX5_learn_12 ?_
  refine V_iald (pc := 13) (by first | rfl | assumption) (by first | omega | assumption | exact and1_lt _ | exact nb_p) dX5_learn_13 ?_
  refine V_callV_I (pc := 14) ff_X5_groundAt ml_X5_122 (by first | rfl | assumption) rfl rfl (c_X5_groundAt (by assumption) (by first | omega | assumption) (by first | omega | assumption)) dX5_learn_14 rfl rfl (by decide) (by decide) (Nat.le_of_ble_eq_true rfl) ?_
  refine V_istore (pc := 17) dX5_learn_17 (by decide) rfl ?_
  refine V_iload (pc := 19) dX5_learn_19 rfl ?_
  refine V_bipush (pc := 21) 4294967287 dX5_learn_21 (by decide) ?_
  refine V_icmp_eq (pc := 23) 82 dX5_learn_23 (by decide) (by first | omega | assumption | exact and1_lt _ | exact nb_p) (by first | omega | assumption | exact and1_lt _ | exact nb_p) (fun h_23 => ?_) (fun h_23 => ?_)
  · skip
    refine V_iconst (pc := 82) 0 dX5_learn_82 (by decide) ?_
    exact J_83 _ (by grind)
  · skip
    refine V_aload_n (pc := 26) dX5_learn_26 rfl ?_
    refine G_X5_kind (pc := 27) (by first | rfl | assumption) fl_X5_22 dX5_learn_27 ?_
    refine V_iload_n (pc := 30) dX5_learn_30 rfl ?_
    refine V_iald (pc := 31) (by first | rfl | assumption) (by first | omega | assumption | exact and1_lt _ | exact nb_p) dX5_learn_31 ?_
    refine V_iconst (pc := 32) 2 dX5_learn_32 (by decide) ?_
    refine V_icmp_ne (pc := 33) 51 dX5_learn_33 (by decide) (by first | omega | assumption | exact and1_lt _ | exact nb_p) (by first | omega | assumption | exact and1_lt _ | exact nb_p) (fun h_33 => ?_) (fun h_33 => ?_)
    · skip
      refine V_aload_n (pc := 51) dX5_learn_51 rfl ?_
      refine G_X5_kind (pc := 52) (by first | rfl | assumption) fl_X5_22 dX5_learn_52 ?_
      refine V_iload_n (pc := 55) dX5_learn_55 rfl ?_
      refine V_iald (pc := 56) (by first | rfl | assumption) (by first | omega | assumption | exact and1_lt _ | exact nb_p) dX5_learn_56 ?_
      refine V_iconst (pc := 57) 3 dX5_learn_57 (by decide) ?_
      refine V_icmp_ne (pc := 58) 78 dX5_learn_58 (by decide) (by first | omega | assumption | exact and1_lt _ | exact nb_p) (by first | omega | assumption | exact and1_lt _ | exact nb_p) (fun h_58 => ?_) (fun h_58 => ?_)
      · skip
        refine V_iconst (pc := 78) 1 dX5_learn_78 (by decide) ?_
        refine V_goto (pc := 79) 83 dX5_learn_79 (by decide) ?_
        exact J_83 _ (by grind)
      · skip
        refine V_aload_n (pc := 61) dX5_learn_61 rfl ?_
        refine V_iload_n (pc := 62) dX5_learn_62 rfl ?_
        refine V_aload_n (pc := 63) dX5_learn_63 rfl ?_
        refine G_X5_now (pc := 64) (by first | rfl | assumption) fl_X5_25 dX5_learn_64 ?_
        refine V_iload_n (pc := 67) dX5_learn_67 rfl ?_
        refine V_iload_n (pc := 68) dX5_learn_68 rfl ?_
        refine V_iadd (pc := 69) dX5_learn_69 ?_
        refine V_iald (pc := 70) (by first | rfl | assumption) (by first | omega | assumption | exact and1_lt _ | exact nb_p) dX5_learn_70 ?_
        refine V_callV_I (pc := 71) ff_X5_together ml_X5_126 (by first | rfl | assumption) rfl rfl (c_X5_together o hL (by omega) hp.1) dX5_learn_71 rfl rfl (by decide) (by decide) (Nat.le_of_ble_eq_true rfl) ?_
        refine V_iconst (pc := 74) 1 dX5_learn_74 (by decide) ?_
        refine V_icmp_ne (pc := 75) 82 dX5_learn_75 (by decide) (by first | omega | assumption | exact and1_lt _ | exact nb_p) (by first | omega | assumption | exact and1_lt _ | exact nb_p) (fun h_75 => ?_) (fun h_75 => ?_)
        · skip
          refine V_iconst (pc := 82) 0 dX5_learn_82 (by decide) ?_
          exact J_83 _ (by grind)
        · skip
          refine V_iconst (pc := 78) 1 dX5_learn_78 (by decide) ?_
          refine V_goto (pc := 79) 83 dX5_learn_79 (by decide) ?_
          exact J_83 _ (by grind)
    · skip
      refine V_aload_n (pc := 36) dX5_learn_36 rfl ?_
      refine G_X5_now (pc := 37) (by first | rfl | assumption) fl_X5_25 dX5_learn_37 ?_
      refine V_iload_n (pc := 40) dX5_learn_40 rfl ?_
      refine V_bipush (pc := 41) 31 dX5_learn_41 (by decide) ?_
      refine V_iadd (pc := 43) dX5_learn_43 ?_
      refine V_iald (pc := 44) (by first | rfl | assumption) (by first | omega | assumption | exact and1_lt _ | exact nb_p) dX5_learn_44 ?_
      refine V_iconst (pc := 45) 2 dX5_learn_45 (by decide) ?_
      refine V_irem (pc := 46) dX5_learn_46 (by first | omega | assumption | exact and1_lt _ | exact nb_p) (by first | omega | assumption | exact and1_lt _ | exact nb_p) (by first | omega | assumption | exact and1_lt _ | exact nb_p) ?_
      refine V_iconst (pc := 47) 1 dX5_learn_47 (by decide) ?_
      refine V_icmp_ne (pc := 48) 82 dX5_learn_48 (by decide) (by first | omega | assumption | exact and1_lt _ | exact nb_p) (by first | omega | assumption | exact and1_lt _ | exact nb_p) (fun h_48 => ?_) (fun h_48 => ?_)
      · skip
        refine V_iconst (pc := 82) 0 dX5_learn_82 (by decide) ?_
        exact J_83 _ (by grind)
      · skip
        refine V_aload_n (pc := 51) dX5_learn_51 rfl ?_
        refine G_X5_kind (pc := 52) (by first | rfl | assumption) fl_X5_22 dX5_learn_52 ?_
        refine V_iload_n (pc := 55) dX5_learn_55 rfl ?_
        refine V_iald (pc := 56) (by first | rfl | assumption) (by first | omega | assumption | exact and1_lt _ | exact nb_p) dX5_learn_56 ?_
        refine V_iconst (pc := 57) 3 dX5_learn_57 (by decide) ?_
        refine V_icmp_ne (pc := 58) 78 dX5_learn_58 (by decide) (by first | omega | assumption | exact and1_lt _ | exact nb_p) (by first | omega | assumption | exact and1_lt _ | exact nb_p) (fun h_58 => ?_) (fun h_58 => ?_)
        · skip
          refine V_iconst (pc := 78) 1 dX5_learn_78 (by decide) ?_
          refine V_goto (pc := 79) 83 dX5_learn_79 (by decide) ?_
          exact J_83 _ (by grind)
        · skip
          refine V_aload_n (pc := 61) dX5_learn_61 rfl ?_
          refine V_iload_n (pc := 62) dX5_learn_62 rfl ?_
          refine V_aload_n (pc := 63) dX5_learn_63 rfl ?_
          refine G_X5_now (pc := 64) (by first | rfl | assumption) fl_X5_25 dX5_learn_64 ?_
          refine V_iload_n (pc := 67) dX5_learn_67 rfl ?_
          refine V_iload_n (pc := 68) dX5_learn_68 rfl ?_
          refine V_iadd (pc := 69) dX5_learn_69 ?_
          refine V_iald (pc := 70) (by first | rfl | assumption) (by first | omega | assumption | exact and1_lt _ | exact nb_p) dX5_learn_70 ?_
          refine V_callV_I (pc := 71) ff_X5_together ml_X5_126 (by first | rfl | assumption) rfl rfl (c_X5_together o hL (by omega) hp.1) dX5_learn_71 rfl rfl (by decide) (by decide) (Nat.le_of_ble_eq_true rfl) ?_
          refine V_iconst (pc := 74) 1 dX5_learn_74 (by decide) ?_
          refine V_icmp_ne (pc := 75) 82 dX5_learn_75 (by decide) (by first | omega | assumption | exact and1_lt _ | exact nb_p) (by first | omega | assumption | exact and1_lt _ | exact nb_p) (fun h_75 => ?_) (fun h_75 => ?_)
          · skip
            refine V_iconst (pc := 82) 0 dX5_learn_82 (by decide) ?_
            exact J_83 _ (by grind)
          · skip
            refine V_iconst (pc := 78) 1 dX5_learn_78 (by decide) ?_
            refine V_goto (pc := 79) 83 dX5_learn_79 (by decide) ?_
            exact J_83 _ (by grind)
theorem c_X5_learn2 {B : Bk} {σ : St} {L c : Nat} {P : Nat → Nat} (o : OKK σ) (ht : σ 0 20 < 64) (hL : L < 2) (hc : c < σ 0 2) (hp : OKP P) (hd : P 31 < 2 ^ 31) : MC yX5_learn cX5_learn 7 none 2 B [.ref (B.1 0), .int (nI L), .int (nI c)] (stM σ L P) (dV (stM σ L (lrn σ (σ 0 20) c P))) := by
  have h := c_X5_learn (B := B) (σ := stM σ L P) (L := L) (c := c) (OKK_K (KEq_stM σ L P).symm o) (by rw [stM_o (by decide)]; exact ht) hL (by rw [stM_o (by decide)]; exact hc) (by rw [pM_stM]; exact hp) (by rw [pM_stM]; exact hd)
  rw [pM_stM, stM_stM, lrn_K (KEq_stM σ L P), stM_o (by decide)] at h
  exact h
set_option maxHeartbeats 4000000 in
set_option maxRecDepth 100000 in
theorem c_X5_passOn {B : Bk} {σ : St} {L z : Nat} (o : OKK σ) (ht : σ 0 20 < 64) (hL : L < 2) (hz : z < 2) (hp : OKP (pM σ L)) (hd : pM σ L 31 + 1 < 2 ^ 31) : MC yX5_passOn cX5_passOn 6 none 3 B [.ref (B.1 0), .int (nI L), .int (nI z)] σ (dV (stM σ L (psn σ (if z = 1 then wyO σ (pM σ L 31) else 4) (σ 0 20) (pM σ L)))) := by
  obtain ⟨o0, o1, o2, o3, o4, o5⟩ := id o
  refine MC_void RX5 [some (.ref (B.1 0)), some (.int (nI L)), some (.int (nI z)), none, none, none] 3 (by decide +kernel) rfl rfl (Nat.le_of_ble_eq_true rfl) (fun E Q hret => ?_)
  have hd31 : σ 6 (32 * L + 31) < 2 ^ 31 := by have := hd; unfold pM at this; omega
  have h5 : pM σ L 5 < 32 := hp.2.1
  have J_26 : ∀ (w : Nat), w = (if z = 1 then wyO σ (pM σ L 31) else 4) → w ≤ 4 → V E B RX5 cX5_passOn 6 3 Q 26 [some (.ref (B.1 0)), some (.int (nI L)), some (.int (nI z)), some (.int (nI (32 * L))), none, none] [.int (nI w)] (σ) := by
    intro w hw hw4
    refine V_istore (pc := 26) dX5_passOn_26 (by decide) rfl ?_
    refine V_iconst (pc := 28) 0 dX5_passOn_28 (by decide) ?_
    refine V_istore (pc := 29) dX5_passOn_29 (by decide) rfl ?_
    have L_31 : ∀ (m : Nat) (i : Nat), σ 0 2 - i = m → i ≤ σ 0 2 → V E B RX5 cX5_passOn 6 3 Q 31 [some (.ref (B.1 0)), some (.int (nI L)), some (.int (nI z)), some (.int (nI (32 * L))), some (.int (nI w)), some (.int (nI i))] [] (stM σ L (dri w (pM σ L) i)) := by
      intro m
      induction m using Nat.strongRecOn with
      | _ m ih =>
        intro i hm hi
        have hin := dri_o (w := w) (P := pM σ L) (n := i) (j := i) (Nat.le_refl _)
        have hi5 := dri_o (w := w) (P := pM σ L) (n := i) (j := 5) (by omega)
        have hc2 : stM σ L (dri w (pM σ L) i) 0 2 = σ 0 2 := by rw [stM_o (by decide)]
        refine V_iload (pc := 31) dX5_passOn_31 rfl ?_
        refine V_aload_n (pc := 33) dX5_passOn_33 rfl ?_
        refine G_X5_children (pc := 34) (by first | rfl | assumption) fl_X5_114 dX5_passOn_34 ?_
        rw [hc2]
        refine V_icmp_ge (pc := 37) 97 dX5_passOn_37 (by decide) (by first | omega | assumption | exact and1_lt _ | exact nb_p) (by first | omega | assumption | exact and1_lt _ | exact nb_p) (fun h_37 => ?_) (fun h_37 => ?_)
        · skip
          refine V_iconst (pc := 97) 0 dX5_passOn_97 (by decide) ?_
          refine V_istore (pc := 98) dX5_passOn_98 (by decide) rfl ?_
          have L_100 : ∀ (m : Nat) (i : Nat), σ 0 2 - i = m → i ≤ σ 0 2 → V E B RX5 cX5_passOn 6 3 Q 100 [some (.ref (B.1 0)), some (.int (nI L)), some (.int (nI z)), some (.int (nI (32 * L))), some (.int (nI w)), some (.int (nI i))] [] (stM σ L (lrF σ (σ 0 20) (dri w (pM σ L) (σ 0 2)) i)) := by
            intro m
            induction m using Nat.strongRecOn with
            | _ m ih =>
              intro j hm2 hj
              have hc2 : stM σ L (lrF σ (σ 0 20) (dri w (pM σ L) (σ 0 2)) j) 0 2 = σ 0 2 := by rw [stM_o (by decide)]
              have hP2 := OKP_lrF o (OKP_dri hp w o2) (σ 0 20) hj
              have h31 : lrF σ (σ 0 20) (dri w (pM σ L) (σ 0 2)) j 31 = pM σ L 31 := by rw [lrF_o o (by omega) hj, dri_o (by omega)]
              refine V_iload (pc := 100) dX5_passOn_100 rfl ?_
              refine V_aload_n (pc := 102) dX5_passOn_102 rfl ?_
              refine G_X5_children (pc := 103) (by first | rfl | assumption) fl_X5_114 dX5_passOn_103 ?_
              rw [hc2]
              refine V_icmp_ge (pc := 106) 122 dX5_passOn_106 (by decide) (by first | omega | assumption | exact and1_lt _ | exact nb_p) (by first | omega | assumption | exact and1_lt _ | exact nb_p) (fun h_106 => ?_) (fun h_106 => ?_)
              · skip
                refine V_aload_n (pc := 122) dX5_passOn_122 rfl ?_
                refine G_X5_now (pc := 123) (by first | rfl | assumption) fl_X5_25 dX5_passOn_123 ?_
                refine V_iload_n (pc := 126) dX5_passOn_126 rfl ?_
                refine V_bipush (pc := 127) 31 dX5_passOn_127 (by decide) ?_
                refine V_iadd (pc := 129) dX5_passOn_129 ?_
                refine V_dup2 (pc := 130) dX5_passOn_130 rfl rfl ?_
                refine V_iald (pc := 131) (by first | rfl | assumption) (by first | omega | assumption | exact and1_lt _ | exact nb_p) dX5_passOn_131 ?_
                rw [stM_get]
                refine V_iconst (pc := 132) 1 dX5_passOn_132 (by decide) ?_
                refine V_iadd (pc := 133) dX5_passOn_133 ?_
                refine V_iast (pc := 134) (by first | rfl | assumption) (by first | omega | assumption | exact and1_lt _ | exact nb_p) dX5_passOn_134 ?_
                exact hret _ _ _ dX5_passOn_135 (dV_mk (by rw [stM_put, show j = σ 0 2 by omega, ← hw]; rfl))
              · skip
                refine V_aload_n (pc := 109) dX5_passOn_109 rfl ?_
                refine V_iload_n (pc := 110) dX5_passOn_110 rfl ?_
                refine V_iload (pc := 111) dX5_passOn_111 rfl ?_
                refine V_callV_V (pc := 113) ff_X5_learn ml_X5_139 (by first | rfl | assumption) rfl rfl (c_X5_learn2 o ht hL (by omega) hP2 (by rw [h31]; omega)) dX5_passOn_113 rfl rfl (by decide) (by decide) (Nat.le_of_ble_eq_true rfl) ?_
                refine V_iinc (pc := 116) 1 dX5_passOn_116 (by decide) rfl (by decide) rfl ?_
                refine V_goto (pc := 119) 100 dX5_passOn_119 (by decide) ?_
                exact ih _ (by omega) (j + 1) rfl (by omega)
          rw [show i = σ 0 2 by omega]
          exact L_100 _ 0 rfl (by omega)
        · skip
          refine V_aload_n (pc := 40) dX5_passOn_40 rfl ?_
          refine G_X5_now (pc := 41) (by first | rfl | assumption) fl_X5_25 dX5_passOn_41 ?_
          refine V_iload_n (pc := 44) dX5_passOn_44 rfl ?_
          refine V_iload (pc := 45) dX5_passOn_45 rfl ?_
          refine V_iadd (pc := 47) dX5_passOn_47 ?_
          refine V_aload_n (pc := 48) dX5_passOn_48 rfl ?_
          refine G_X5_now (pc := 49) (by first | rfl | assumption) fl_X5_25 dX5_passOn_49 ?_
          refine V_iload_n (pc := 52) dX5_passOn_52 rfl ?_
          refine V_iconst (pc := 53) 5 dX5_passOn_53 (by decide) ?_
          refine V_iadd (pc := 54) dX5_passOn_54 ?_
          refine V_iald (pc := 55) (by first | rfl | assumption) (by first | omega | assumption | exact and1_lt _ | exact nb_p) dX5_passOn_55 ?_
          rw [stM_get, hi5]
          refine V_iload (pc := 56) dX5_passOn_56 rfl ?_
          refine V_callS_I (pc := 58) ff_X5_has ml_X5_80 (c_X5_has (by first | omega | assumption | exact and1_lt _ | exact nb_p) (by first | omega | assumption | exact and1_lt _ | exact nb_p)) dX5_passOn_58 rfl rfl (by decide) (by decide) (Nat.le_of_ble_eq_true rfl) ?_
          refine V_ifb_eq (pc := 61) 76 dX5_passOn_61 (by decide) (fun h_61 => ?_) (fun h_61 => ?_)
          · skip
            refine V_aload_n (pc := 76) dX5_passOn_76 rfl ?_
            refine G_X5_now (pc := 77) (by first | rfl | assumption) fl_X5_25 dX5_passOn_77 ?_
            refine V_iload_n (pc := 80) dX5_passOn_80 rfl ?_
            refine V_iload (pc := 81) dX5_passOn_81 rfl ?_
            refine V_iadd (pc := 83) dX5_passOn_83 ?_
            refine V_iald (pc := 84) (by first | rfl | assumption) (by first | omega | assumption | exact and1_lt _ | exact nb_p) dX5_passOn_84 ?_
            rw [stM_get, hin]
            refine V_iload (pc := 85) dX5_passOn_85 rfl ?_
            refine V_callS_I (pc := 87) ff_X5_onward ml_X5_136 (c_X5_onward (by have := hp.1 i (by omega); omega) (by omega)) dX5_passOn_87 rfl rfl (by decide) (by decide) (Nat.le_of_ble_eq_true rfl) ?_
            refine V_iast (pc := 90) (by first | rfl | assumption) (by first | omega | assumption | exact and1_lt _ | exact nb_p) dX5_passOn_90 ?_
            refine V_iinc (pc := 91) 1 dX5_passOn_91 (by decide) rfl (by decide) rfl ?_
            refine V_goto (pc := 94) 31 dX5_passOn_94 (by decide) ?_
            rw [stM_put]
            have e := ih _ (by omega) (i + 1) rfl (by omega)
            rw [dri_s] at e
            first | (rw [if_pos h_61] at e; exact e) | (rw [if_neg h_61] at e; exact e)
          · skip
            refine V_aload_n (pc := 64) dX5_passOn_64 rfl ?_
            refine G_X5_now (pc := 65) (by first | rfl | assumption) fl_X5_25 dX5_passOn_65 ?_
            refine V_iload_n (pc := 68) dX5_passOn_68 rfl ?_
            refine V_iload (pc := 69) dX5_passOn_69 rfl ?_
            refine V_iadd (pc := 71) dX5_passOn_71 ?_
            refine V_iald (pc := 72) (by first | rfl | assumption) (by first | omega | assumption | exact and1_lt _ | exact nb_p) dX5_passOn_72 ?_
            rw [stM_get, hin]
            refine V_goto (pc := 73) 90 dX5_passOn_73 (by decide) ?_
            refine V_iast (pc := 90) (by first | rfl | assumption) (by first | omega | assumption | exact and1_lt _ | exact nb_p) dX5_passOn_90 ?_
            refine V_iinc (pc := 91) 1 dX5_passOn_91 (by decide) rfl (by decide) rfl ?_
            refine V_goto (pc := 94) 31 dX5_passOn_94 (by decide) ?_
            rw [stM_put]
            have e := ih _ (by omega) (i + 1) rfl (by omega)
            rw [dri_s] at e
            first | (rw [if_pos h_61] at e; exact e) | (rw [if_neg h_61] at e; exact e)
    have e := L_31 _ 0 rfl (by omega)
    rw [show dri w (pM σ L) 0 = pM σ L from rfl, stM_self] at e
    exact e
  refine V_bipush (pc := 0) 32 dX5_passOn_0 (by decide) ?_
  refine V_iload_n (pc := 2) dX5_passOn_2 rfl ?_
  refine V_imul (pc := 3) dX5_passOn_3 ?_
  refine V_istore_n (pc := 4) dX5_passOn_4 (by decide) rfl ?_
  refine V_iload_n (pc := 5) dX5_passOn_5 rfl ?_
  refine V_if_eq (pc := 6) 25 dX5_passOn_6 (by decide) (by first | omega | assumption | exact and1_lt _ | exact nb_p) (fun h_6 => ?_) (fun h_6 => ?_)
  · skip
    refine V_iconst (pc := 25) 4 dX5_passOn_25 (by decide) ?_
    exact J_26 _ (by first | (rw [if_pos (by omega)]; rfl) | rw [if_neg (by omega)]) (by first | omega | (unfold wyO; split; omega; exact o3 _ (Nat.mod_lt _ (by omega))))
  · skip
    refine V_aload_n (pc := 9) dX5_passOn_9 rfl ?_
    refine V_aload_n (pc := 10) dX5_passOn_10 rfl ?_
    refine G_X5_now (pc := 11) (by first | rfl | assumption) fl_X5_25 dX5_passOn_11 ?_
    refine V_iload_n (pc := 14) dX5_passOn_14 rfl ?_
    refine V_bipush (pc := 15) 31 dX5_passOn_15 (by decide) ?_
    refine V_iadd (pc := 17) dX5_passOn_17 ?_
    refine V_iald (pc := 18) (by first | rfl | assumption) (by first | omega | assumption | exact and1_lt _ | exact nb_p) dX5_passOn_18 ?_
    refine V_callV_I (pc := 19) ff_X5_wayOf ml_X5_133 (by first | rfl | assumption) rfl rfl (c_X5_wayOf (by assumption) (by first | omega | assumption)) dX5_passOn_19 rfl rfl (by decide) (by decide) (Nat.le_of_ble_eq_true rfl) ?_
    refine V_goto (pc := 22) 26 dX5_passOn_22 (by decide) ?_
    exact J_26 _ (by first | (rw [if_pos (by omega)]; rfl) | rw [if_neg (by omega)]) (by first | omega | (unfold wyO; split; omega; exact o3 _ (Nat.mod_lt _ (by omega))))
theorem c_X5_passOn2 {B : Bk} {σ : St} {L z : Nat} {P : Nat → Nat} (o : OKK σ) (ht : σ 0 20 < 64) (hL : L < 2) (hz : z < 2) (hp : OKP P) (hd : P 31 + 1 < 2 ^ 31) : MC yX5_passOn cX5_passOn 6 none 3 B [.ref (B.1 0), .int (nI L), .int (nI z)] (stM σ L P) (dV (stM σ L (psn σ (if z = 1 then wyO σ (P 31) else 4) (σ 0 20) P))) := by
  have h := c_X5_passOn (B := B) (σ := stM σ L P) (L := L) (z := z) (OKK_K (KEq_stM σ L P).symm o) (by rw [stM_o (by decide)]; exact ht) hL hz (by rw [pM_stM]; exact hp) (by rw [pM_stM]; exact hd)
  rw [pM_stM, stM_stM, psn_K (KEq_stM σ L P), wyO_K (KEq_stM σ L P), stM_o (by decide)] at h
  exact h
