/-! the class: past, memories -/
theorem kdP : ∀ i, i < 14 → kd (60 + 3 * i) = (6, 0) := by decide +kernel
theorem kdK : ∀ i, i < 2 → kd (54 + 3 * i) = (6, 0) := by decide +kernel
set_option maxHeartbeats 4000000 in
set_option maxRecDepth 100000 in
theorem c_X2_rowAt {B : Bk} {σ : St} {s : Nat} (hs : s < 2 ^ 32) : MC yX2_rowAt cX2_rowAt 2 (some (.object "PotSchools$Pots")) 0 B [.ref (B.1 23), .int (nI s)] σ (slP B σ 24 14 s) := by
  refine MC_ref RX2 [some (.ref (B.1 23)), some (.int (nI s))] 0 (by decide +kernel) rfl rfl (Nat.le_of_ble_eq_true rfl) (fun E Q hret => ?_)
  refine V_iload_n (pc := 0) dX2_rowAt_0 rfl ?_
  refine V_if_lt (pc := 1) 22 dX2_rowAt_1 (by decide) (by first | omega | assumption | exact and1_lt _ | exact nb_p) (fun h_1 => ?_) (fun h_1 => ?_)
  · skip
    refine V_null (pc := 22) dX2_rowAt_22 ?_
    exact hret _ _ _ _ dX2_rowAt_23 (by first | exact Or.inr ⟨_, rfl⟩ | exact Or.inl rfl) ⟨by first | rw [if_pos (by omega)] | rw [if_neg (by omega)], rfl⟩
  · skip
    refine V_iload_n (pc := 4) dX2_rowAt_4 rfl ?_
    refine V_aload_n (pc := 5) dX2_rowAt_5 rfl ?_
    refine G_X2_rows (pc := 6) (by first | rfl | assumption) fl_X2_11 dX2_rowAt_6 ?_
    refine V_alen (pc := 9) (by first | rfl | assumption) (by decide) (by decide) dX2_rowAt_9 ?_
    refine V_icmp_ge (pc := 10) 22 dX2_rowAt_10 (by decide) (by first | omega | assumption | exact and1_lt _ | exact nb_p) (by first | omega | assumption | exact and1_lt _ | exact nb_p) (fun h_10 => ?_) (fun h_10 => ?_)
    · skip
      refine V_null (pc := 22) dX2_rowAt_22 ?_
      exact hret _ _ _ _ dX2_rowAt_23 (by first | exact Or.inr ⟨_, rfl⟩ | exact Or.inl rfl) ⟨by first | rw [if_pos (by omega)] | rw [if_neg (by omega)], rfl⟩
    · skip
      refine V_aload_n (pc := 13) dX2_rowAt_13 rfl ?_
      refine G_X2_rows (pc := 14) (by first | rfl | assumption) fl_X2_11 dX2_rowAt_14 ?_
      refine V_iload_n (pc := 17) dX2_rowAt_17 rfl ?_
      refine V_aald (pc := 18) (by first | rfl | assumption) (by first | omega | assumption | exact and1_lt _ | exact nb_p) dX2_rowAt_18 ?_
      refine V_goto (pc := 19) 23 dX2_rowAt_19 (by decide) ?_
      exact hret _ _ _ _ dX2_rowAt_23 (by first | exact Or.inr ⟨_, rfl⟩ | exact Or.inl rfl) ⟨by first | rw [if_pos (by omega)] | rw [if_neg (by omega)], rfl⟩
set_option maxHeartbeats 4000000 in
set_option maxRecDepth 100000 in
theorem c_X2_clear {B : Bk} {σ : St} : MC yX2_clear cX2_clear 1 none 0 B [.ref (B.1 23)] σ (dV (pt σ 23 2 0)) := by
  refine MC_void RX2 [some (.ref (B.1 23))] 0 (by decide +kernel) rfl rfl (Nat.le_of_ble_eq_true rfl) (fun E Q hret => ?_)
  refine V_aload_n (pc := 0) dX2_clear_0 rfl ?_
  refine V_iconst (pc := 1) 0 dX2_clear_1 (by decide) ?_
  refine P_X2_size (pc := 2) (by first | rfl | assumption) fl_X2_18 dX2_clear_2 ?_
  exact hret _ _ _ dX2_clear_5 (dV_mk rfl)
def rmX (σ : St) (j : Nat) : St := pt (pt (stX σ (60 + 3 * σ 23 1) (pX σ j)) 23 1 ((σ 23 1 + 1) % 14)) 23 2 (if σ 23 2 < 14 then σ 23 2 + 1 else 14)
theorem mn14 {a : Nat} (h : a ≤ 14) : (if nI 14 < nI (a + 1) then nI 14 else nI (a + 1)) = nI (if a < 14 then a + 1 else 14) := by
  by_cases q : a < 14
  · rw [if_pos q, if_neg (by rw [nI_ltI (by omega) (by omega)]; omega)]
  · rw [if_neg q, if_pos ((nI_ltI (by omega) (by omega)).mpr (by omega))]
set_option maxHeartbeats 4000000 in
set_option maxRecDepth 100000 in
theorem c_X2_remember {B : Bk} {σ : St} {j : Nat} (hj : kd j = (6, 0)) (hn : σ 23 1 < 14) (hs : σ 23 2 ≤ 14) (hne : j ≠ 60 + 3 * σ 23 1) : MC yX2_remember cX2_remember 3 none 2 B [.ref (B.1 23), .ref (B.1 j)] σ (dV (rmX σ j)) := by
  have hkr := kdP (σ 23 1) hn
  refine MC_void RX2 [some (.ref (B.1 23)), some (.ref (B.1 j)), none] 1 (by decide +kernel) rfl rfl (Nat.le_of_ble_eq_true rfl) (fun E Q hret => ?_)
  refine V_aload_n (pc := 0) dX2_remember_0 rfl ?_
  refine V_aload_n (pc := 1) dX2_remember_1 rfl ?_
  refine G_X2_next (pc := 2) (by first | rfl | assumption) fl_X2_22 dX2_remember_2 ?_
  refine V_callV (pc := 5) ff_X2_rowAt ml_X2_25 (by first | rfl | assumption) rfl rfl (c_X2_rowAt (by omega)) dX2_remember_5 rfl rfl (by decide) (by decide) (Nat.le_of_ble_eq_true rfl) (fun v u hu => ?_)
  obtain ⟨rfl, rfl⟩ := hu
  rw [if_pos hn, show rT 24 (u 23 1) = 60 + 3 * u 23 1 from rfl]
  simp only [Option.toList, List.cons_append, List.nil_append]
  refine V_astore_n (pc := 8) dX2_remember_8 (by decide) rfl ?_
  refine V_aload_n (pc := 9) dX2_remember_9 rfl ?_
  refine V_ifnull (pc := 10) dX2_remember_10 ?_
  refine V_aload_n (pc := 13) dX2_remember_13 rfl ?_
  refine V_aload_n (pc := 14) dX2_remember_14 rfl ?_
  refine V_callV_V (pc := 15) ff_X3_take ml_X2_29 hkr rfl rfl (c_X3_take hkr hj hne) dX2_remember_15 rfl rfl (by decide) (by decide) (Nat.le_of_ble_eq_true rfl) ?_
  refine V_aload_n (pc := 18) dX2_remember_18 rfl ?_
  refine V_aload_n (pc := 19) dX2_remember_19 rfl ?_
  refine G_X2_next (pc := 20) (by first | rfl | assumption) fl_X2_22 dX2_remember_20 ?_
  rw [stX_o (by omega) (by omega) (by omega)]
  refine V_iconst (pc := 23) 1 dX2_remember_23 (by decide) ?_
  refine V_iadd (pc := 24) dX2_remember_24 ?_
  refine V_bipush (pc := 25) 14 dX2_remember_25 (by decide) ?_
  refine V_irem (pc := 27) dX2_remember_27 (by first | omega | assumption | exact and1_lt _ | exact nb_p) (by first | omega | assumption | exact and1_lt _ | exact nb_p) (by first | omega | assumption | exact and1_lt _ | exact nb_p) ?_
  refine P_X2_next (pc := 28) (by first | rfl | assumption) fl_X2_22 dX2_remember_28 ?_
  refine V_aload_n (pc := 31) dX2_remember_31 rfl ?_
  refine V_aload_n (pc := 32) dX2_remember_32 rfl ?_
  refine G_X2_size (pc := 33) (by first | rfl | assumption) fl_X2_18 dX2_remember_33 ?_
  rw [pt_ne (by omega), stX_o (by omega) (by omega) (by omega)]
  refine V_iconst (pc := 36) 1 dX2_remember_36 (by decide) ?_
  refine V_iadd (pc := 37) dX2_remember_37 ?_
  refine V_bipush (pc := 38) 14 dX2_remember_38 (by decide) ?_
  refine V_mmin (pc := 40) ml_X2_33 dX2_remember_40 (by decide) (Nat.le_of_ble_eq_true rfl) ?_
  rw [mn14 hs]
  refine P_X2_size (pc := 43) (by first | rfl | assumption) fl_X2_18 dX2_remember_43 ?_
  exact hret _ _ _ dX2_remember_46 (dV_mk rfl)
def tb0 (σ : St) : St := pt (pt σ 23 1 ((σ 23 1 + 13) % 14)) 23 2 (σ 23 2 - 1)
def tbX (σ : St) (j : Nat) : St := stX (tb0 σ) j (pX (tb0 σ) (60 + 3 * ((σ 23 1 + 13) % 14)))
theorem mx0 {a : Nat} (h : a < 2 ^ 31) : (if nI a < nI 0 then nI 0 else nI a) = nI a := by
  rw [if_neg (by rw [nI_ltI h (by decide)]; omega)]
set_option maxHeartbeats 4000000 in
set_option maxRecDepth 100000 in
theorem c_X2_takeBack {B : Bk} {σ : St} {j : Nat} (hj : kd j = (6, 0)) (hn : σ 23 1 < 14) (hs : σ 23 2 ≤ 14) (hs0 : 0 < σ 23 2) (hne : j ≠ 60 + 3 * ((σ 23 1 + 13) % 14)) : MC yX2_takeBack cX2_takeBack 3 none 2 B [.ref (B.1 23), .ref (B.1 j)] σ (dV (tbX σ j)) := by
  have hml := Nat.mod_lt (σ 23 1 + 13) (show 0 < 14 by decide)
  have hkr := kdP _ hml
  have e1 : tb0 σ 23 1 = (σ 23 1 + 13) % 14 := by unfold tb0; rw [pt_ne (by omega), pt_at]
  refine MC_void RX2 [some (.ref (B.1 23)), some (.ref (B.1 j)), none] 1 (by decide +kernel) rfl rfl (Nat.le_of_ble_eq_true rfl) (fun E Q hret => ?_)
  refine V_aload_n (pc := 0) dX2_takeBack_0 rfl ?_
  refine V_aload_n (pc := 1) dX2_takeBack_1 rfl ?_
  refine G_X2_next (pc := 2) (by first | rfl | assumption) fl_X2_22 dX2_takeBack_2 ?_
  refine V_bipush (pc := 5) 14 dX2_takeBack_5 (by decide) ?_
  refine V_iadd (pc := 7) dX2_takeBack_7 ?_
  refine V_iconst (pc := 8) 1 dX2_takeBack_8 (by decide) ?_
  refine V_isub (pc := 9) dX2_takeBack_9 (by omega) ?_
  refine V_bipush (pc := 10) 14 dX2_takeBack_10 (by decide) ?_
  refine V_irem (pc := 12) dX2_takeBack_12 (by first | omega | assumption | exact and1_lt _ | exact nb_p) (by first | omega | assumption | exact and1_lt _ | exact nb_p) (by first | omega | assumption | exact and1_lt _ | exact nb_p) ?_
  rw [show σ 23 1 + 14 - 1 = σ 23 1 + 13 by omega]
  refine P_X2_next (pc := 13) (by first | rfl | assumption) fl_X2_22 dX2_takeBack_13 ?_
  refine V_aload_n (pc := 16) dX2_takeBack_16 rfl ?_
  refine V_aload_n (pc := 17) dX2_takeBack_17 rfl ?_
  refine G_X2_size (pc := 18) (by first | rfl | assumption) fl_X2_18 dX2_takeBack_18 ?_
  rw [pt_ne (by omega)]
  refine V_iconst (pc := 21) 1 dX2_takeBack_21 (by decide) ?_
  refine V_isub (pc := 22) dX2_takeBack_22 (by omega) ?_
  refine V_iconst (pc := 23) 0 dX2_takeBack_23 (by decide) ?_
  refine V_mmax (pc := 24) ml_X2_39 dX2_takeBack_24 (by decide) (Nat.le_of_ble_eq_true rfl) ?_
  rw [mx0 (by omega)]
  refine P_X2_size (pc := 27) (by first | rfl | assumption) fl_X2_18 dX2_takeBack_27 ?_
  rw [show pt (pt σ 23 1 ((σ 23 1 + 13) % 14)) 23 2 (σ 23 2 - 1) = tb0 σ from rfl]
  refine V_aload_n (pc := 30) dX2_takeBack_30 rfl ?_
  refine V_aload_n (pc := 31) dX2_takeBack_31 rfl ?_
  refine G_X2_next (pc := 32) (by first | rfl | assumption) fl_X2_22 dX2_takeBack_32 ?_
  rw [e1]
  refine V_callV (pc := 35) ff_X2_rowAt ml_X2_25 (by first | rfl | assumption) rfl rfl (c_X2_rowAt (by omega)) dX2_takeBack_35 rfl rfl (by decide) (by decide) (Nat.le_of_ble_eq_true rfl) (fun v u hu => ?_)
  obtain ⟨rfl, rfl⟩ := hu
  rw [if_pos hml, show rT 24 ((σ 23 1 + 13) % 14) = 60 + 3 * ((σ 23 1 + 13) % 14) from rfl]
  simp only [Option.toList, List.cons_append, List.nil_append]
  refine V_astore_n (pc := 38) dX2_takeBack_38 (by decide) rfl ?_
  refine V_aload_n (pc := 39) dX2_takeBack_39 rfl ?_
  refine V_ifnull (pc := 40) dX2_takeBack_40 ?_
  refine V_aload_n (pc := 43) dX2_takeBack_43 rfl ?_
  refine V_aload_n (pc := 44) dX2_takeBack_44 rfl ?_
  refine V_callV_V (pc := 45) ff_X3_take ml_X2_29 hj rfl rfl (c_X3_take hj hkr (fun q => hne q.symm)) dX2_takeBack_45 rfl rfl (by decide) (by decide) (Nat.le_of_ble_eq_true rfl) ?_
  exact hret _ _ _ dX2_takeBack_48 (dV_mk rfl)
set_option maxHeartbeats 4000000 in
set_option maxRecDepth 100000 in
theorem c_X1_add {B : Bk} {σ : St} {s n v : Nat} (hs : σ 25 3 < 6) : MC yX1_add cX1_add 4 none 1 B [.ref (B.1 25), .int (nI s), .int (nI n), .int (nI v)] σ (dV (pt (pt (pt (pt σ 26 (σ 25 3) s) 27 (σ 25 3) n) 28 (σ 25 3) v) 25 3 (σ 25 3 + 1))) := by
  refine MC_void RX1 [some (.ref (B.1 25)), some (.int (nI s)), some (.int (nI n)), some (.int (nI v))] 0 (by decide +kernel) rfl rfl (Nat.le_of_ble_eq_true rfl) (fun E Q hret => ?_)
  refine V_aload_n (pc := 0) dX1_add_0 rfl ?_
  refine G_X1_subjects (pc := 1) (by first | rfl | assumption) fl_X1_9 dX1_add_1 ?_
  refine V_aload_n (pc := 4) dX1_add_4 rfl ?_
  refine G_X1_size (pc := 5) (by first | rfl | assumption) fl_X1_21 dX1_add_5 ?_
  refine V_iload_n (pc := 8) dX1_add_8 rfl ?_
  refine V_callSN_V (pc := 9) ff_X4_lay (List.mem_of_getElem? (i := 6) rfl) (c_X4_layI (n := 6) rfl hs) dX1_add_9 rfl rfl (by decide) (by decide) (Nat.le_of_ble_eq_true rfl) ?_
  refine V_aload_n (pc := 12) dX1_add_12 rfl ?_
  refine G_X1_days (pc := 13) (by first | rfl | assumption) fl_X1_15 dX1_add_13 ?_
  refine V_aload_n (pc := 16) dX1_add_16 rfl ?_
  refine G_X1_size (pc := 17) (by first | rfl | assumption) fl_X1_21 dX1_add_17 ?_
  rw [pt_ne (by omega)]
  refine V_iload_n (pc := 20) dX1_add_20 rfl ?_
  refine V_callSN_V (pc := 21) ff_X4_lay (List.mem_of_getElem? (i := 6) rfl) (c_X4_layI (n := 6) rfl hs) dX1_add_21 rfl rfl (by decide) (by decide) (Nat.le_of_ble_eq_true rfl) ?_
  refine V_aload_n (pc := 24) dX1_add_24 rfl ?_
  refine G_X1_amounts (pc := 25) (by first | rfl | assumption) fl_X1_18 dX1_add_25 ?_
  refine V_aload_n (pc := 28) dX1_add_28 rfl ?_
  refine G_X1_size (pc := 29) (by first | rfl | assumption) fl_X1_21 dX1_add_29 ?_
  rw [pt_ne (by omega), pt_ne (by omega)]
  refine V_iload_n (pc := 32) dX1_add_32 rfl ?_
  refine V_callSN_V (pc := 33) ff_X4_lay (List.mem_of_getElem? (i := 6) rfl) (c_X4_layI (n := 6) rfl hs) dX1_add_33 rfl rfl (by decide) (by decide) (Nat.le_of_ble_eq_true rfl) ?_
  refine V_aload_n (pc := 36) dX1_add_36 rfl ?_
  refine V_dup (pc := 37) dX1_add_37 rfl ?_
  refine G_X1_size (pc := 38) (by first | rfl | assumption) fl_X1_21 dX1_add_38 ?_
  rw [pt_ne (by omega), pt_ne (by omega), pt_ne (by omega)]
  refine V_iconst (pc := 41) 1 dX1_add_41 (by decide) ?_
  refine V_iadd (pc := 42) dX1_add_42 ?_
  refine P_X1_size (pc := 43) (by first | rfl | assumption) fl_X1_21 dX1_add_43 ?_
  exact hret _ _ _ dX1_add_46 (dV_mk rfl)
abbrev arB (σ : St) (P : Nat → Nat) (d n : Nat) : Prop := ∀ i, i < n → σ 27 i = d → P (6 + σ 26 i) = σ 28 i
def OKM (σ : St) : Prop := σ 25 3 ≤ 6 ∧ ∀ i, i < σ 25 3 → σ 26 i < 5 ∧ σ 27 i ≤ 9 ∧ σ 28 i ≤ 9
set_option maxHeartbeats 4000000 in
set_option maxRecDepth 100000 in
theorem c_X1_areSo2 {B : Bk} {σ : St} {k d : Nat} {P : Nat → Nat} (hk : kd k = (6, 0)) (w : OKM σ) (hp : OKP P) (hd : d < 2 ^ 31) : MC yX1_areSo cX1_areSo 4 (some .boolean) 2 B [.ref (B.1 25), .int (nI d), .ref (B.1 k)] (stX σ k P) (dI (if arB σ P d (σ 25 3) then 1 else 0) (stX σ k P)) := by
  obtain ⟨k1, k2, k3, k4, k5⟩ := kd6' hk
  obtain ⟨w1, w2⟩ := w
  have so : ∀ q, q < 45 → stX σ k P q = σ q := fun q h => stX_o (by omega) (by omega) (by omega)
  refine MC_bool RX1 [some (.ref (B.1 25)), some (.int (nI d)), some (.ref (B.1 k)), none] 1 (by decide +kernel) rfl rfl (Nat.le_of_ble_eq_true rfl) (fun E Q hret => ?_)
  refine V_iconst (pc := 0) 0 dX1_areSo_0 (by decide) ?_
  refine V_istore_n (pc := 1) dX1_areSo_1 (by decide) rfl ?_
  have L_2 : ∀ (m : Nat) (i : Nat), σ 25 3 - i = m → i ≤ σ 25 3 → arB σ P d i → V E B RX1 cX1_areSo 4 2 Q 2 [some (.ref (B.1 25)), some (.int (nI d)), some (.ref (B.1 k)), some (.int (nI i))] [] (stX σ k P) := by
    intro m
    induction m using Nat.strongRecOn with
    | _ m ih =>
      intro i hm hi ha
      refine V_iload_n (pc := 2) dX1_areSo_2 rfl ?_
      refine V_aload_n (pc := 3) dX1_areSo_3 rfl ?_
      refine G_X1_size (pc := 4) (by first | rfl | assumption) fl_X1_21 dX1_areSo_4 ?_
      rw [so 25 (by decide)]
      refine V_icmp_ge (pc := 7) 54 dX1_areSo_7 (by decide) (by first | omega | assumption | exact and1_lt _ | exact nb_p) (by first | omega | assumption | exact and1_lt _ | exact nb_p) (fun h_7 => ?_) (fun h_7 => ?_)
      · skip
        refine V_iconst (pc := 54) 1 dX1_areSo_54 (by decide) ?_
        exact hret _ _ _ _ dX1_areSo_55 (by first | decide | omega | (split <;> omega)) (dI_mk (by rw [if_pos (fun j hj => ha j (by omega))]) rfl)
      · skip
        refine V_aload_n (pc := 10) dX1_areSo_10 rfl ?_
        refine G_X1_days (pc := 11) (by first | rfl | assumption) fl_X1_15 dX1_areSo_11 ?_
        refine V_iload_n (pc := 14) dX1_areSo_14 rfl ?_
        refine V_callSN_I (pc := 15) ff_X4_at (List.mem_of_getElem? (i := 7) rfl) (c_X4_atI (n := 6) rfl (by omega)) dX1_areSo_15 rfl rfl (by decide) (by decide) (Nat.le_of_ble_eq_true rfl) ?_
        rw [so 27 (by decide)]
        have w3 := w2 i (by omega)
        refine V_iload_n (pc := 18) dX1_areSo_18 rfl ?_
        refine V_icmp_ne (pc := 19) 48 dX1_areSo_19 (by decide) (by first | omega | assumption | exact and1_lt _ | exact nb_p) (by first | omega | assumption | exact and1_lt _ | exact nb_p) (fun h_19 => ?_) (fun h_19 => ?_)
        · skip
          refine V_iinc (pc := 48) 1 dX1_areSo_48 (by decide) rfl (by decide) rfl ?_
          refine V_goto (pc := 51) 2 dX1_areSo_51 (by decide) ?_
          exact ih _ (by omega) (i + 1) rfl (by omega) (fun j hj e => by
            rcases (show j < i ∨ j = i by omega) with q | q
            · exact ha j q e
            · subst q
              first | exact h_43 | exact absurd e h_19)
        · skip
          refine V_aload_n (pc := 22) dX1_areSo_22 rfl ?_
          refine V_iconst (pc := 23) 0 dX1_areSo_23 (by decide) ?_
          refine V_aload_n (pc := 24) dX1_areSo_24 rfl ?_
          refine G_X1_subjects (pc := 25) (by first | rfl | assumption) fl_X1_9 dX1_areSo_25 ?_
          refine V_iload_n (pc := 28) dX1_areSo_28 rfl ?_
          refine V_callSN_I (pc := 29) ff_X4_at (List.mem_of_getElem? (i := 7) rfl) (c_X4_atI (n := 6) rfl (by omega)) dX1_areSo_29 rfl rfl (by decide) (by decide) (Nat.le_of_ble_eq_true rfl) ?_
          rw [so 26 (by decide)]
          refine V_callV_I (pc := 32) ff_X3_known ml_X1_33 hk rfl rfl (c_X3_known hk (by decide) (by omega)) dX1_areSo_32 rfl rfl (by decide) (by decide) (Nat.le_of_ble_eq_true rfl) ?_
          rw [stX_n _ _ _ (by omega), show 0 * 5 + σ 26 i = σ 26 i by omega]
          have hkn := hp.2.2 (σ 26 i) (by omega)
          refine V_aload_n (pc := 35) dX1_areSo_35 rfl ?_
          refine G_X1_amounts (pc := 36) (by first | rfl | assumption) fl_X1_18 dX1_areSo_36 ?_
          refine V_iload_n (pc := 39) dX1_areSo_39 rfl ?_
          refine V_callSN_I (pc := 40) ff_X4_at (List.mem_of_getElem? (i := 7) rfl) (c_X4_atI (n := 6) rfl (by omega)) dX1_areSo_40 rfl rfl (by decide) (by decide) (Nat.le_of_ble_eq_true rfl) ?_
          rw [so 28 (by decide)]
          refine V_icmp_eq (pc := 43) 48 dX1_areSo_43 (by decide) (by first | omega | assumption | exact and1_lt _ | exact nb_p) (by first | omega | assumption | exact and1_lt _ | exact nb_p) (fun h_43 => ?_) (fun h_43 => ?_)
          · skip
            refine V_iinc (pc := 48) 1 dX1_areSo_48 (by decide) rfl (by decide) rfl ?_
            refine V_goto (pc := 51) 2 dX1_areSo_51 (by decide) ?_
            exact ih _ (by omega) (i + 1) rfl (by omega) (fun j hj e => by
              rcases (show j < i ∨ j = i by omega) with q | q
              · exact ha j q e
              · subst q
                first | exact h_43 | exact absurd e h_19)
          · skip
            refine V_iconst (pc := 46) 0 dX1_areSo_46 (by decide) ?_
            exact hret _ _ _ _ dX1_areSo_47 (by first | decide | omega | (split <;> omega)) (dI_mk (by rw [if_neg (fun q => h_43 (q i (by omega) h_19))]) rfl)
  exact L_2 _ 0 rfl (by omega) (fun j hj => absurd hj (by omega))
