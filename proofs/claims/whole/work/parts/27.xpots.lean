/-! the class: pots -/
theorem kd6 : ∀ k, k < 102 → kd k = (6, 0) → kd (k + 1) = (0, 5) ∧ kd (k + 2) = (0, 25) ∧ 45 ≤ k ∧ k < 100 ∧ k % 3 = 0 := by decide +kernel
theorem kd6' {k : Nat} (h : kd k = (6, 0)) : kd (k + 1) = (0, 5) ∧ kd (k + 2) = (0, 25) ∧ 45 ≤ k ∧ k < 100 ∧ k % 3 = 0 := kd6 k (kd_lt h (by decide)) h
theorem kd3 : ∀ k, k < 102 → kd k = (3, 0) → k = 29 ∨ k = 37 := by decide +kernel
theorem kd3' {k : Nat} (h : kd k = (3, 0)) : kd (k + 1) = (0, 4) ∧ kd (k + 2) = (0, 6) ∧ kd (k + 3) = (0, 6) ∧ kd (k + 4) = (0, 6) ∧ kd (k + 5) = (0, 5) ∧ kd (k + 6) = (0, 5) ∧ kd (k + 7) = (0, 12) ∧ (k = 29 ∨ k = 37) := by
  rcases kd3 k (kd_lt h (by decide)) h with rfl | rfl
  · exact ⟨rfl, rfl, rfl, rfl, rfl, rfl, rfl, Or.inl rfl⟩
  · exact ⟨rfl, rfl, rfl, rfl, rfl, rfl, rfl, Or.inr rfl⟩
def pX (σ : St) (k : Nat) : Nat → Nat := fun i => if i < 5 then σ (k + 1) i else if i = 5 then σ k 2 else if i < 31 then σ (k + 2) (i - 6) else if i = 31 then σ k 3 else 0
def stX (σ : St) (k : Nat) (P : Nat → Nat) : St := fun k' i => if k' = k + 1 ∧ i < 5 then P i else if k' = k ∧ i = 2 then P 5 else if k' = k + 2 ∧ i < 25 then P (6 + i) else if k' = k ∧ i = 3 then P 31 else σ k' i
def Z32 (P : Nat → Nat) : Prop := ∀ i, 32 ≤ i → P i = 0
theorem Z_pX (σ : St) (k : Nat) : Z32 (pX σ k) := fun i hi => by
  unfold pX
  rw [if_neg (by omega), if_neg (by omega), if_neg (by omega), if_neg (by omega)]
theorem Z_fup {P : Nat → Nat} (h : Z32 P) {i x : Nat} (hi : i < 32) : Z32 (fup P i x) := fun j hj => by rw [fup_o (by omega)]; exact h j hj
theorem stX_self (σ : St) (k : Nat) : stX σ k (pX σ k) = σ := by
  funext k' i
  unfold stX pX
  by_cases h1 : k' = k + 1 ∧ i < 5
  · rw [if_pos h1, if_pos h1.2, h1.1]
  rw [if_neg h1]
  by_cases h2 : k' = k ∧ i = 2
  · rw [if_pos h2, if_neg (by omega), if_pos rfl, h2.1, h2.2]
  rw [if_neg h2]
  by_cases h3 : k' = k + 2 ∧ i < 25
  · rw [if_pos h3, if_neg (by omega), if_neg (by omega), if_pos (by omega), h3.1, show 6 + i - 6 = i by omega]
  rw [if_neg h3]
  by_cases h4 : k' = k ∧ i = 3
  · rw [if_pos h4, if_neg (by omega), if_neg (by omega), if_neg (by omega), if_pos rfl, h4.1, h4.2]
  rw [if_neg h4]
theorem stX_c (σ : St) (k : Nat) (P : Nat → Nat) {i : Nat} (h : i < 5) : stX σ k P (k + 1) i = P i := by
  unfold stX
  rw [if_pos ⟨rfl, h⟩]
theorem stX_m (σ : St) (k : Nat) (P : Nat → Nat) : stX σ k P k 2 = P 5 := by
  unfold stX
  rw [if_neg (by omega), if_pos ⟨rfl, rfl⟩]
theorem stX_n (σ : St) (k : Nat) (P : Nat → Nat) {i : Nat} (h : i < 25) : stX σ k P (k + 2) i = P (6 + i) := by
  unfold stX
  rw [if_neg (by omega), if_neg (by omega), if_pos ⟨rfl, h⟩]
theorem stX_d (σ : St) (k : Nat) (P : Nat → Nat) : stX σ k P k 3 = P 31 := by
  unfold stX
  rw [if_neg (by omega), if_neg (by omega), if_neg (by omega), if_pos ⟨rfl, rfl⟩]
theorem stX_o {σ : St} {k k' : Nat} {P : Nat → Nat} (h : k' ≠ k) (h1 : k' ≠ k + 1) (h2 : k' ≠ k + 2) : stX σ k P k' = σ k' := by
  funext i
  unfold stX
  rw [if_neg (by omega), if_neg (by omega), if_neg (by omega), if_neg (by omega)]
theorem pX_stX (σ : St) (k : Nat) {P : Nat → Nat} (h : Z32 P) : pX (stX σ k P) k = P := by
  funext i
  unfold pX
  by_cases h1 : i < 5
  · rw [if_pos h1, stX_c _ _ _ h1]
  rw [if_neg h1]
  by_cases h2 : i = 5
  · rw [if_pos h2, stX_m, h2]
  rw [if_neg h2]
  by_cases h3 : i < 31
  · rw [if_pos h3, stX_n _ _ _ (by omega), show 6 + (i - 6) = i by omega]
  rw [if_neg h3]
  by_cases h4 : i = 31
  · rw [if_pos h4, stX_d, h4]
  rw [if_neg h4, h i (by omega)]
theorem stX_stX (σ : St) (k : Nat) (P P' : Nat → Nat) : stX (stX σ k P) k P' = stX σ k P' := by
  funext k' i
  unfold stX
  (repeat' split) <;> rfl
theorem stX_pc (σ : St) (k : Nat) (P : Nat → Nat) {i : Nat} (x : Nat) (h : i < 5) : pt (stX σ k P) (k + 1) i x = stX σ k (fup P i x) := by
  funext k' j
  by_cases e : k' = k + 1 ∧ j = i
  · rw [e.1, e.2, pt_at, stX_c _ _ _ h, fup_s]
  · rw [pt_ne (by omega)]
    unfold stX fup
    (repeat' split) <;> first | rfl | (exfalso; omega)
theorem stX_pm (σ : St) (k : Nat) (P : Nat → Nat) (x : Nat) : pt (stX σ k P) k 2 x = stX σ k (fup P 5 x) := by
  funext k' j
  by_cases e : k' = k ∧ j = 2
  · rw [e.1, e.2, pt_at, stX_m, fup_s]
  · rw [pt_ne (by omega)]
    unfold stX fup
    (repeat' split) <;> first | rfl | (exfalso; omega)
theorem stX_pn (σ : St) (k : Nat) (P : Nat → Nat) {i : Nat} (x : Nat) (h : i < 25) : pt (stX σ k P) (k + 2) i x = stX σ k (fup P (6 + i) x) := by
  funext k' j
  by_cases e : k' = k + 2 ∧ j = i
  · rw [e.1, e.2, pt_at, stX_n _ _ _ h, fup_s]
  · rw [pt_ne (by omega)]
    unfold stX fup
    (repeat' split) <;> first | rfl | (exfalso; omega)
theorem stX_pd (σ : St) (k : Nat) (P : Nat → Nat) (x : Nat) : pt (stX σ k P) k 3 x = stX σ k (fup P 31 x) := by
  funext k' j
  by_cases e : k' = k ∧ j = 3
  · rw [e.1, e.2, pt_at, stX_d, fup_s]
  · rw [pt_ne (by omega)]
    unfold stX fup
    (repeat' split) <;> first | rfl | (exfalso; omega)
/-- a coast of the class -/
def KX (σ : St) (b : Nat) : St := fun r i => if r = 0 then (if i < 3 then σ b (7 + i) else 0) else if r ≤ 4 then σ (b + r) i else if r = 5 then σ (b + 6) i else if r = 6 then σ (b + 5) i else 0
def GB (σ : St) (b : Nat) : Prop := ∀ cell, cell < 12 → (σ (b + 7) cell = 0 ∧ ∀ g, g < σ b 8 → σ (b + 2) g ≠ cell) ∨ ∃ g, g < σ b 8 ∧ σ (b + 7) cell = g + 1 ∧ σ (b + 2) g = cell
/-- a coast of the class that is in order -/
def OKX (σ : St) (b : Nat) : Prop := kd b = (3, 0) ∧ OKT (KX σ b) ∧ GB σ b
theorem KX_stX {σ : St} {k b : Nat} {P : Nat → Nat} (hk : kd k = (6, 0)) (hb : kd b = (3, 0)) : KX (stX σ k P) b = KX σ b := by
  have h1 := kd6' hk
  have h2 := kd3' hb
  funext r i
  unfold KX
  rw [stX_o (by omega) (by omega) (by omega)]
  by_cases h : r ≤ 4
  · rw [stX_o (k' := b + r) (by omega) (by omega) (by omega), stX_o (k' := b + 6) (by omega) (by omega) (by omega), stX_o (k' := b + 5) (by omega) (by omega) (by omega)]
  · rw [if_neg h, if_neg h, stX_o (k' := b + 6) (by omega) (by omega) (by omega), stX_o (k' := b + 5) (by omega) (by omega) (by omega)]
theorem OKX_same {σ u : St} {b : Nat} (h : OKX σ b) (he : ∀ k, b ≤ k → k < b + 8 → u k = σ k) : OKX u b := by
  have hK : KX u b = KX σ b := by
    funext r i
    unfold KX
    rw [he b (by omega) (by omega)]
    by_cases h : r ≤ 4
    · rw [he (b + r) (by omega) (by omega), he (b + 6) (by omega) (by omega), he (b + 5) (by omega) (by omega)]
    · rw [if_neg h, if_neg h, he (b + 6) (by omega) (by omega), he (b + 5) (by omega) (by omega)]
  refine ⟨h.1, by rw [hK]; exact h.2.1, ?_⟩
  intro cell hc
  have := h.2.2 cell hc
  rw [he b (by omega) (by omega), he (b + 7) (by omega) (by omega), he (b + 2) (by omega) (by omega)]
  exact this
theorem OKX_stX {σ : St} {k b : Nat} {P : Nat → Nat} (hk : kd k = (6, 0)) (h : OKX σ b) : OKX (stX σ k P) b := by
  have h1 := kd6' hk
  have h2 := kd3' h.1
  exact OKX_same h (fun q h3 h4 => stX_o (by omega) (by omega) (by omega))
theorem KX3 (σ : St) (b i : Nat) : KX σ b 3 i = σ (b + 3) i := rfl
theorem KX4 (σ : St) (b i : Nat) : KX σ b 4 i = σ (b + 4) i := rfl
theorem KX5 (σ : St) (b i : Nat) : KX σ b 5 i = σ (b + 6) i := rfl
def gIn (σ : St) (b cell : Nat) : Nat := if cell < 12 ∧ 0 < σ (b + 7) cell then σ (b + 7) cell - 1 else 4294967287
set_option maxHeartbeats 4000000 in
set_option maxRecDepth 100000 in
theorem c_X0_groundIn {B : Bk} {σ : St} {b c : Nat} (hb : kd b = (3, 0)) (hc : c < 2 ^ 32) (hg : ∀ i, i < 12 → σ (b + 7) i ≤ 6) : MC yX0_groundIn cX0_groundIn 3 (some .int) 1 B [.ref (B.1 b), .int (nI c)] σ (dI (gIn σ b c) σ) := by
  obtain ⟨b1, b2, b3, b4, b5, b6, b7, b8⟩ := kd3' hb
  refine MC_int RX0 [some (.ref (B.1 b)), some (.int (nI c)), none] 1 (by decide +kernel) rfl rfl (Nat.le_of_ble_eq_true rfl) (fun E Q hret => ?_)
  refine V_aload_n (pc := 0) dX0_groundIn_0 rfl ?_
  refine G_X0_groundsByCell (pc := 1) (by first | rfl | assumption) fl_X0_30 dX0_groundIn_1 ?_
  refine V_iload_n (pc := 4) dX0_groundIn_4 rfl ?_
  refine V_callSN_I (pc := 5) ff_X4_at (List.mem_of_getElem? (i := 1) rfl) (c_X4_at b7 (by decide) hc) dX0_groundIn_5 rfl rfl (by decide) (by decide) (Nat.le_of_ble_eq_true rfl) ?_
  have hv : (if c < 12 then σ (b + 7) c else 0) ≤ 6 := by
    split
    · exact hg c (by assumption)
    · omega
  generalize hw : (if c < 12 then σ (b + 7) c else 0) = w at *
  refine V_istore_n (pc := 8) dX0_groundIn_8 (by decide) rfl ?_
  refine V_iload_n (pc := 9) dX0_groundIn_9 rfl ?_
  refine V_if_le (pc := 10) 19 dX0_groundIn_10 (by decide) (by first | omega | assumption | exact and1_lt _ | exact nb_p) (fun h_10 => ?_) (fun h_10 => ?_)
  · skip
    refine V_bipush (pc := 19) 4294967287 dX0_groundIn_19 (by decide) ?_
    exact hret _ _ _ _ dX0_groundIn_21 (dI_mk (by unfold gIn; rw [← hw] at *; (repeat' split at *) <;> (repeat' split) <;> first | (exfalso; omega) | rfl | omega) rfl)
  · skip
    refine V_iload_n (pc := 13) dX0_groundIn_13 rfl ?_
    refine V_iconst (pc := 14) 1 dX0_groundIn_14 (by decide) ?_
    refine V_isub (pc := 15) dX0_groundIn_15 (by omega) ?_
    refine V_goto (pc := 16) 21 dX0_groundIn_16 (by decide) ?_
    exact hret _ _ _ _ dX0_groundIn_21 (dI_mk (by unfold gIn; rw [← hw] at *; (repeat' split at *) <;> (repeat' split) <;> first | (exfalso; omega) | rfl | omega) rfl)
set_option maxHeartbeats 4000000 in
set_option maxRecDepth 100000 in
theorem c_X0_wayOn {B : Bk} {σ : St} {b day : Nat} (hb : kd b = (3, 0)) (o : OKK (KX σ b)) (hd : day < 2 ^ 31) : MC yX0_wayOn cX0_wayOn 2 (some .int) 1 B [.ref (B.1 b), .int (nI day)] σ (dI (wyO (KX σ b) day) σ) := by
  obtain ⟨b1, b2, b3, b4, b5, b6, b7, b8⟩ := kd3' hb
  have o0 : σ b 7 ≤ 4 := o.1
  refine MC_int RX0 [some (.ref (B.1 b)), some (.int (nI day))] 0 (by decide +kernel) rfl rfl (Nat.le_of_ble_eq_true rfl) (fun E Q hret => ?_)
  refine V_aload_n (pc := 0) dX0_wayOn_0 rfl ?_
  refine G_X0_tides (pc := 1) (by first | rfl | assumption) fl_X0_37 dX0_wayOn_1 ?_
  refine V_if_le (pc := 4) 23 dX0_wayOn_4 (by decide) (by first | omega | assumption | exact and1_lt _ | exact nb_p) (fun h_4 => ?_) (fun h_4 => ?_)
  · skip
    refine V_iconst (pc := 23) 4 dX0_wayOn_23 (by decide) ?_
    exact hret _ _ _ _ dX0_wayOn_24 (dI_mk (by unfold wyO; rw [show KX σ b 0 0 = σ b 7 from rfl]; first | rw [if_pos (by omega)] | (rw [if_neg (by omega)]; rfl)) rfl)
  · skip
    refine V_aload_n (pc := 7) dX0_wayOn_7 rfl ?_
    refine G_X0_ways (pc := 8) (by first | rfl | assumption) fl_X0_9 dX0_wayOn_8 ?_
    refine V_iload_n (pc := 11) dX0_wayOn_11 rfl ?_
    refine V_aload_n (pc := 12) dX0_wayOn_12 rfl ?_
    refine G_X0_tides (pc := 13) (by first | rfl | assumption) fl_X0_37 dX0_wayOn_13 ?_
    have hml := Nat.mod_lt day (show 0 < σ b 7 by omega)
    refine V_irem (pc := 16) dX0_wayOn_16 (by first | omega | assumption | exact and1_lt _ | exact nb_p) (by first | omega | assumption | exact and1_lt _ | exact nb_p) (by first | omega | assumption | exact and1_lt _ | exact nb_p) ?_
    refine V_callSN_I (pc := 17) ff_X4_at (List.mem_of_getElem? (i := 1) rfl) (c_X4_atI b1 (by omega)) dX0_wayOn_17 rfl rfl (by decide) (by decide) (Nat.le_of_ble_eq_true rfl) ?_
    refine V_goto (pc := 20) 24 dX0_wayOn_20 (by decide) ?_
    exact hret _ _ _ _ dX0_wayOn_24 (dI_mk (by unfold wyO; rw [show KX σ b 0 0 = σ b 7 from rfl]; first | rw [if_pos (by omega)] | (rw [if_neg (by omega)]; rfl)) rfl)
set_option maxHeartbeats 4000000 in
set_option maxRecDepth 100000 in
theorem c_X3_isMoored {B : Bk} {σ : St} {k c : Nat} (hk : kd k = (6, 0)) (hm : σ k 2 < 2 ^ 31) (hc : c < 32) : MC yX3_isMoored cX3_isMoored 2 (some .boolean) 0 B [.ref (B.1 k), .int (nI c)] σ (dI (if (σ k 2).testBit c = true then 1 else 0) σ) := by
  refine MC_bool RX3 [some (.ref (B.1 k)), some (.int (nI c))] 0 (by decide +kernel) rfl rfl (Nat.le_of_ble_eq_true rfl) (fun E Q hret => ?_)
  refine V_aload_n (pc := 0) dX3_isMoored_0 rfl ?_
  refine G_X3_moored (pc := 1) (by first | rfl | assumption) fl_X3_39 dX3_isMoored_1 ?_
  refine V_iload_n (pc := 4) dX3_isMoored_4 rfl ?_
  refine V_ishr (pc := 5) dX3_isMoored_5 (by first | omega | assumption | exact and1_lt _ | exact nb_p) (by first | omega | assumption | exact and1_lt _ | exact nb_p) ?_
  refine V_iconst (pc := 6) 1 dX3_isMoored_6 (by decide) ?_
  refine V_iand (pc := 7) dX3_isMoored_7 ?_
  refine V_iconst (pc := 8) 1 dX3_isMoored_8 (by decide) ?_
  refine V_icmp_ne (pc := 9) 16 dX3_isMoored_9 (by decide) (Nat.lt_trans (and1_lt _) (by decide)) (by decide) (fun h_9 => ?_) (fun h_9 => ?_)
  · skip
    refine V_iconst (pc := 16) 0 dX3_isMoored_16 (by decide) ?_
    exact hret _ _ _ _ dX3_isMoored_17 (by first | decide | omega | (split <;> omega)) (dI_mk (by first | (rw [if_pos (tb_and.mp (by assumption))]) | (rw [if_neg (fun h => (by assumption : _ ≠ _) (tb_and.mpr h))])) rfl)
  · skip
    refine V_iconst (pc := 12) 1 dX3_isMoored_12 (by decide) ?_
    refine V_goto (pc := 13) 17 dX3_isMoored_13 (by decide) ?_
    exact hret _ _ _ _ dX3_isMoored_17 (by first | decide | omega | (split <;> omega)) (dI_mk (by first | (rw [if_pos (tb_and.mp (by assumption))]) | (rw [if_neg (fun h => (by assumption : _ ≠ _) (tb_and.mpr h))])) rfl)
set_option maxHeartbeats 4000000 in
set_option maxRecDepth 100000 in
theorem c_X3_turnMooring {B : Bk} {σ : St} {k c : Nat} (hk : kd k = (6, 0)) (hc : c < 32) : MC yX3_turnMooring cX3_turnMooring 2 none 0 B [.ref (B.1 k), .int (nI c)] σ (dV (pt σ k 2 (σ k 2 ^^^ 1 * 2 ^ c))) := by
  refine MC_void RX3 [some (.ref (B.1 k)), some (.int (nI c))] 0 (by decide +kernel) rfl rfl (Nat.le_of_ble_eq_true rfl) (fun E Q hret => ?_)
  refine V_aload_n (pc := 0) dX3_turnMooring_0 rfl ?_
  refine V_dup (pc := 1) dX3_turnMooring_1 rfl ?_
  refine G_X3_moored (pc := 2) (by first | rfl | assumption) fl_X3_39 dX3_turnMooring_2 ?_
  refine V_iconst (pc := 5) 1 dX3_turnMooring_5 (by decide) ?_
  refine V_iload_n (pc := 6) dX3_turnMooring_6 rfl ?_
  refine V_ishl (pc := 7) dX3_turnMooring_7 (by first | omega | assumption | exact and1_lt _ | exact nb_p) ?_
  refine V_ixor (pc := 8) dX3_turnMooring_8 ?_
  refine P_X3_moored (pc := 9) (by first | rfl | assumption) fl_X3_39 dX3_turnMooring_9 ?_
  exact hret _ _ _ dX3_turnMooring_12 (dV_mk rfl)
set_option maxHeartbeats 4000000 in
set_option maxRecDepth 100000 in
theorem c_X3_fix {B : Bk} {σ : St} {k c x : Nat} (hk : kd k = (6, 0)) (hc : c < 5) : MC yX3_fix cX3_fix 3 none 1 B [.ref (B.1 k), .int (nI c), .int (nI x)] σ (dV (pt (pt σ (k + 1) c x) k 2 (σ k 2 ||| 1 * 2 ^ c))) := by
  obtain ⟨k1, k2, k3, k4, k5⟩ := kd6' hk
  refine MC_void RX3 [some (.ref (B.1 k)), some (.int (nI c)), some (.int (nI x))] 0 (by decide +kernel) rfl rfl (Nat.le_of_ble_eq_true rfl) (fun E Q hret => ?_)
  refine V_aload_n (pc := 0) dX3_fix_0 rfl ?_
  refine G_X3_cells (pc := 1) (by first | rfl | assumption) fl_X3_9 dX3_fix_1 ?_
  refine V_iload_n (pc := 4) dX3_fix_4 rfl ?_
  refine V_iload_n (pc := 5) dX3_fix_5 rfl ?_
  refine V_callSN_V (pc := 6) ff_X4_lay (List.mem_of_getElem? (i := 2) rfl) (c_X4_layI k1 hc) dX3_fix_6 rfl rfl (by decide) (by decide) (Nat.le_of_ble_eq_true rfl) ?_
  refine V_aload_n (pc := 9) dX3_fix_9 rfl ?_
  refine V_dup (pc := 10) dX3_fix_10 rfl ?_
  refine G_X3_moored (pc := 11) (by first | rfl | assumption) fl_X3_39 dX3_fix_11 ?_
  rw [pt_ne (by omega)]
  refine V_iconst (pc := 14) 1 dX3_fix_14 (by decide) ?_
  refine V_iload_n (pc := 15) dX3_fix_15 rfl ?_
  refine V_ishl (pc := 16) dX3_fix_16 (by first | omega | assumption | exact and1_lt _ | exact nb_p) ?_
  refine V_ior (pc := 17) dX3_fix_17 ?_
  refine P_X3_moored (pc := 18) (by first | rfl | assumption) fl_X3_39 dX3_fix_18 ?_
  exact hret _ _ _ dX3_fix_21 (dV_mk rfl)
set_option maxHeartbeats 4000000 in
set_option maxRecDepth 100000 in
theorem c_X3_known {B : Bk} {σ : St} {k c s : Nat} (hk : kd k = (6, 0)) (hc : c < 5) (hs : s < 5) : MC yX3_known cX3_known 3 (some .int) 1 B [.ref (B.1 k), .int (nI c), .int (nI s)] σ (dI (σ (k + 2) (c * 5 + s)) σ) := by
  obtain ⟨k1, k2, k3, k4, k5⟩ := kd6' hk
  refine MC_int RX3 [some (.ref (B.1 k)), some (.int (nI c)), some (.int (nI s))] 0 (by decide +kernel) rfl rfl (Nat.le_of_ble_eq_true rfl) (fun E Q hret => ?_)
  refine V_aload_n (pc := 0) dX3_known_0 rfl ?_
  refine G_X3_known (pc := 1) (by first | rfl | assumption) fl_X3_15 dX3_known_1 ?_
  refine V_iload_n (pc := 4) dX3_known_4 rfl ?_
  refine V_iconst (pc := 5) 5 dX3_known_5 (by decide) ?_
  refine V_imul (pc := 6) dX3_known_6 ?_
  refine V_iload_n (pc := 7) dX3_known_7 rfl ?_
  refine V_iadd (pc := 8) dX3_known_8 ?_
  refine V_callSN_I (pc := 9) ff_X4_at (List.mem_of_getElem? (i := 3) rfl) (c_X4_atI k2 (by omega)) dX3_known_9 rfl rfl (by decide) (by decide) (Nat.le_of_ble_eq_true rfl) ?_
  exact hret _ _ _ _ dX3_known_12 (dI_mk rfl rfl)
theorem pX_n {σ : St} {k j : Nat} (h : j < 25) : pX σ k (6 + j) = σ (k + 2) j := by
  unfold pX
  rw [if_neg (by omega), if_neg (by omega), if_pos (by omega), show 6 + j - 6 = j by omega]
theorem pX_c {σ : St} {k j : Nat} (h : j < 5) : pX σ k j = σ (k + 1) j := by
  unfold pX
  rw [if_pos h]
theorem pX_5 (σ : St) (k : Nat) : pX σ k 5 = σ k 2 := rfl
theorem pX_31 (σ : St) (k : Nat) : pX σ k 31 = σ k 3 := rfl
def smF (f : Nat → Nat) : Nat → Nat
  | 0 => 0
  | n + 1 => smF f n + f n
theorem sm_wt (σ : St) (k : Nat) : smF (σ (k + 2)) 25 = wtS (pX σ k) 5 := by
  simp only [smF, wtS, wtF]
  simp only [pX, Nat.reduceMul, Nat.reduceAdd, Nat.reduceLT, Nat.reduceEqDiff, if_false, if_true, Nat.reduceSub]
  omega
set_option maxHeartbeats 4000000 in
set_option maxRecDepth 100000 in
theorem c_X3_weight {B : Bk} {σ : St} {k c : Nat} (hk : kd k = (6, 0)) (hc : c < 5) : MC yX3_weight cX3_weight 4 (some .int) 2 B [.ref (B.1 k), .int (nI c)] σ (dI (wtF (pX σ k) c 5) σ) := by
  obtain ⟨k1, k2, k3, k4, k5⟩ := kd6' hk
  refine MC_int RX3 [some (.ref (B.1 k)), some (.int (nI c)), none, none] 2 (by decide +kernel) rfl rfl (Nat.le_of_ble_eq_true rfl) (fun E Q hret => ?_)
  refine V_iconst (pc := 0) 0 dX3_weight_0 (by decide) ?_
  refine V_istore_n (pc := 1) dX3_weight_1 (by decide) rfl ?_
  refine V_iconst (pc := 2) 0 dX3_weight_2 (by decide) ?_
  refine V_istore_n (pc := 3) dX3_weight_3 (by decide) rfl ?_
  have L_4 : ∀ (m : Nat) (i s : Nat), 5 - i = m → i ≤ 5 → s = wtF (pX σ k) c i → V E B RX3 cX3_weight 4 2 Q 4 [some (.ref (B.1 k)), some (.int (nI c)), some (.int (nI s)), some (.int (nI i))] [] (σ) := by
    intro m
    induction m using Nat.strongRecOn with
    | _ m ih =>
      intro i s hm hi hs
      refine V_iload_n (pc := 4) dX3_weight_4 rfl ?_
      refine V_iconst (pc := 5) 5 dX3_weight_5 (by decide) ?_
      refine V_icmp_ge (pc := 6) 24 dX3_weight_6 (by decide) (by first | omega | assumption | exact and1_lt _ | exact nb_p) (by first | omega | assumption | exact and1_lt _ | exact nb_p) (fun h_6 => ?_) (fun h_6 => ?_)
      · skip
        refine V_iload_n (pc := 24) dX3_weight_24 rfl ?_
        exact hret _ _ _ _ dX3_weight_25 (dI_mk (by rw [hs, show i = 5 by omega]) rfl)
      · skip
        refine V_iload_n (pc := 9) dX3_weight_9 rfl ?_
        refine V_aload_n (pc := 10) dX3_weight_10 rfl ?_
        refine V_iload_n (pc := 11) dX3_weight_11 rfl ?_
        refine V_iload_n (pc := 12) dX3_weight_12 rfl ?_
        refine V_callV_I (pc := 13) ff_X3_known ml_X3_45 (by first | rfl | assumption) rfl rfl (c_X3_known hk hc (by omega)) dX3_weight_13 rfl rfl (by decide) (by decide) (Nat.le_of_ble_eq_true rfl) ?_
        refine V_iadd (pc := 16) dX3_weight_16 ?_
        refine V_istore_n (pc := 17) dX3_weight_17 (by decide) rfl ?_
        refine V_iinc (pc := 18) 1 dX3_weight_18 (by decide) rfl (by decide) rfl ?_
        refine V_goto (pc := 21) 4 dX3_weight_21 (by decide) ?_
        exact ih _ (by omega) (i + 1) _ rfl (by omega) (by rw [hs, wtF, show 6 + 5 * c + i = 6 + (c * 5 + i) by omega, pX_n (by omega)])
  exact L_4 _ 0 _ rfl (by omega) rfl
set_option maxHeartbeats 4000000 in
set_option maxRecDepth 100000 in
theorem c_X3_weights {B : Bk} {σ : St} {k : Nat} (hk : kd k = (6, 0)) : MC yX3_weights cX3_weights 3 (some .int) 0 B [.ref (B.1 k)] σ (dI (wtS (pX σ k) 5) σ) := by
  obtain ⟨k1, k2, k3, k4, k5⟩ := kd6' hk
  refine MC_int RX3 [some (.ref (B.1 k)), none, none] 2 (by decide +kernel) rfl rfl (Nat.le_of_ble_eq_true rfl) (fun E Q hret => ?_)
  refine V_iconst (pc := 0) 0 dX3_weights_0 (by decide) ?_
  refine V_istore_n (pc := 1) dX3_weights_1 (by decide) rfl ?_
  refine V_iconst (pc := 2) 0 dX3_weights_2 (by decide) ?_
  refine V_istore_n (pc := 3) dX3_weights_3 (by decide) rfl ?_
  have L_4 : ∀ (m : Nat) (i : Nat), 25 - i = m → i ≤ 25 → V E B RX3 cX3_weights 3 0 Q 4 [some (.ref (B.1 k)), some (.int (nI (smF (σ (k + 2)) i))), some (.int (nI i))] [] (σ) := by
    intro m
    induction m using Nat.strongRecOn with
    | _ m ih =>
      intro i hm hi
      refine V_iload_n (pc := 4) dX3_weights_4 rfl ?_
      refine V_aload_n (pc := 5) dX3_weights_5 rfl ?_
      refine G_X3_known (pc := 6) (by first | rfl | assumption) fl_X3_15 dX3_weights_6 ?_
      refine V_alen (pc := 9) k2 (by decide) (by decide) dX3_weights_9 ?_
      refine V_icmp_ge (pc := 10) 28 dX3_weights_10 (by decide) (by first | omega | assumption | exact and1_lt _ | exact nb_p) (by first | omega | assumption | exact and1_lt _ | exact nb_p) (fun h_10 => ?_) (fun h_10 => ?_)
      · skip
        refine V_iload_n (pc := 28) dX3_weights_28 rfl ?_
        exact hret _ _ _ _ dX3_weights_29 (dI_mk (by rw [← sm_wt, show i = 25 by omega]) rfl)
      · skip
        refine V_iload_n (pc := 13) dX3_weights_13 rfl ?_
        refine V_aload_n (pc := 14) dX3_weights_14 rfl ?_
        refine G_X3_known (pc := 15) (by first | rfl | assumption) fl_X3_15 dX3_weights_15 ?_
        refine V_iload_n (pc := 18) dX3_weights_18 rfl ?_
        refine V_iald (pc := 19) k2 (by first | omega | assumption | exact and1_lt _ | exact nb_p) dX3_weights_19 ?_
        refine V_iadd (pc := 20) dX3_weights_20 ?_
        refine V_istore_n (pc := 21) dX3_weights_21 (by decide) rfl ?_
        refine V_iinc (pc := 22) 1 dX3_weights_22 (by decide) rfl (by decide) rfl ?_
        refine V_goto (pc := 25) 4 dX3_weights_25 (by decide) ?_
        exact ih _ (by omega) (i + 1) rfl (by omega)
  exact L_4 _ 0 rfl (by omega)
set_option maxHeartbeats 4000000 in
set_option maxRecDepth 100000 in
theorem c_X3_unlearn {B : Bk} {σ : St} {k c : Nat} (hk : kd k = (6, 0)) (hc : c < 5) : MC yX3_unlearn cX3_unlearn 3 none 1 B [.ref (B.1 k), .int (nI c)] σ (dV (stX σ k (unl (pX σ k) c 5))) := by
  obtain ⟨k1, k2, k3, k4, k5⟩ := kd6' hk
  refine MC_void RX3 [some (.ref (B.1 k)), some (.int (nI c)), none] 1 (by decide +kernel) rfl rfl (Nat.le_of_ble_eq_true rfl) (fun E Q hret => ?_)
  refine V_iconst (pc := 0) 0 dX3_unlearn_0 (by decide) ?_
  refine V_istore_n (pc := 1) dX3_unlearn_1 (by decide) rfl ?_
  have L_2 : ∀ (m : Nat) (i : Nat), 5 - i = m → i ≤ 5 → V E B RX3 cX3_unlearn 3 1 Q 2 [some (.ref (B.1 k)), some (.int (nI c)), some (.int (nI i))] [] (stX σ k (unl (pX σ k) c i)) := by
    intro m
    induction m using Nat.strongRecOn with
    | _ m ih =>
      intro i hm hi
      refine V_iload_n (pc := 2) dX3_unlearn_2 rfl ?_
      refine V_iconst (pc := 3) 5 dX3_unlearn_3 (by decide) ?_
      refine V_icmp_ge (pc := 4) 26 dX3_unlearn_4 (by decide) (by first | omega | assumption | exact and1_lt _ | exact nb_p) (by first | omega | assumption | exact and1_lt _ | exact nb_p) (fun h_4 => ?_) (fun h_4 => ?_)
      · skip
        exact hret _ _ _ dX3_unlearn_26 (dV_mk (by rw [show i = 5 by omega]))
      · skip
        refine V_aload_n (pc := 7) dX3_unlearn_7 rfl ?_
        refine G_X3_known (pc := 8) (by first | rfl | assumption) fl_X3_15 dX3_unlearn_8 ?_
        refine V_iload_n (pc := 11) dX3_unlearn_11 rfl ?_
        refine V_iconst (pc := 12) 5 dX3_unlearn_12 (by decide) ?_
        refine V_imul (pc := 13) dX3_unlearn_13 ?_
        refine V_iload_n (pc := 14) dX3_unlearn_14 rfl ?_
        refine V_iadd (pc := 15) dX3_unlearn_15 ?_
        refine V_iconst (pc := 16) 0 dX3_unlearn_16 (by decide) ?_
        refine V_callSN_V (pc := 17) ff_X4_lay (List.mem_of_getElem? (i := 2) rfl) (c_X4_layI k2 (by omega)) dX3_unlearn_17 rfl rfl (by decide) (by decide) (Nat.le_of_ble_eq_true rfl) ?_
        refine V_iinc (pc := 20) 1 dX3_unlearn_20 (by decide) rfl (by decide) rfl ?_
        refine V_goto (pc := 23) 2 dX3_unlearn_23 (by decide) ?_
        rw [stX_pn _ _ _ _ (by omega), show 6 + (c * 5 + i) = 6 + 5 * c + i by omega]
        exact ih _ (by omega) (i + 1) rfl (by omega)
  have e := L_2 _ 0 rfl (by omega)
  rw [show unl (pX σ k) c 0 = pX σ k from rfl, stX_self] at e
  exact e
set_option maxHeartbeats 4000000 in
set_option maxRecDepth 100000 in
theorem c_X3_childrenIn {B : Bk} {σ : St} {k cell n : Nat} (hk : kd k = (6, 0)) (hn : n ≤ 5) (hc : cell < 2 ^ 31) (hP : ∀ i, i < 5 → σ (k + 1) i < 12) : MC yX3_childrenIn cX3_childrenIn 5 (some .int) 1 B [.ref (B.1 k), .int (nI cell), .int (nI n)] σ (dI (chA (pX σ k) cell n) σ) := by
  obtain ⟨k1, k2, k3, k4, k5⟩ := kd6' hk
  refine MC_int RX3 [some (.ref (B.1 k)), some (.int (nI cell)), some (.int (nI n)), none, none] 2 (by decide +kernel) rfl rfl (Nat.le_of_ble_eq_true rfl) (fun E Q hret => ?_)
  refine V_iconst (pc := 0) 0 dX3_childrenIn_0 (by decide) ?_
  refine V_istore_n (pc := 1) dX3_childrenIn_1 (by decide) rfl ?_
  refine V_iconst (pc := 2) 0 dX3_childrenIn_2 (by decide) ?_
  refine V_istore (pc := 3) dX3_childrenIn_3 (by decide) rfl ?_
  have L_5 : ∀ (m : Nat) (i s : Nat), n - i = m → i ≤ n → s = chA (pX σ k) cell i → V E B RX3 cX3_childrenIn 5 1 Q 5 [some (.ref (B.1 k)), some (.int (nI cell)), some (.int (nI n)), some (.int (nI s)), some (.int (nI i))] [] (σ) := by
    intro m
    induction m using Nat.strongRecOn with
    | _ m ih =>
      intro i s hm hi hs
      refine V_iload (pc := 5) dX3_childrenIn_5 rfl ?_
      refine V_iload_n (pc := 7) dX3_childrenIn_7 rfl ?_
      refine V_icmp_ge (pc := 8) 37 dX3_childrenIn_8 (by decide) (by first | omega | assumption | exact and1_lt _ | exact nb_p) (by first | omega | assumption | exact and1_lt _ | exact nb_p) (fun h_8 => ?_) (fun h_8 => ?_)
      · skip
        refine V_iload_n (pc := 37) dX3_childrenIn_37 rfl ?_
        exact hret _ _ _ _ dX3_childrenIn_38 (dI_mk (by rw [hs, show i = n by omega]) rfl)
      · skip
        refine V_aload_n (pc := 11) dX3_childrenIn_11 rfl ?_
        refine G_X3_cells (pc := 12) (by first | rfl | assumption) fl_X3_9 dX3_childrenIn_12 ?_
        refine V_iload (pc := 15) dX3_childrenIn_15 rfl ?_
        refine V_callSN_I (pc := 17) ff_X4_at (List.mem_of_getElem? (i := 3) rfl) (c_X4_atI k1 (by omega)) dX3_childrenIn_17 rfl rfl (by decide) (by decide) (Nat.le_of_ble_eq_true rfl) ?_
        refine V_iload_n (pc := 20) dX3_childrenIn_20 rfl ?_
        refine V_icmp_ne (pc := 21) 31 dX3_childrenIn_21 (by decide) (by have := hP i (by omega); omega) (by omega) (fun h_21 => ?_) (fun h_21 => ?_)
        · skip
          refine V_iinc (pc := 31) 1 dX3_childrenIn_31 (by decide) rfl (by decide) rfl ?_
          refine V_goto (pc := 34) 5 dX3_childrenIn_34 (by decide) ?_
          exact ih _ (by omega) (i + 1) _ rfl (by omega) (by rw [chA, pX_c (by omega), hs]; first | (rw [if_neg h_21, Nat.or_zero]; done) | rw [if_pos h_21])
        · skip
          refine V_iload_n (pc := 24) dX3_childrenIn_24 rfl ?_
          refine V_iconst (pc := 25) 1 dX3_childrenIn_25 (by decide) ?_
          refine V_iload (pc := 26) dX3_childrenIn_26 rfl ?_
          refine V_ishl (pc := 28) dX3_childrenIn_28 (by first | omega | assumption | exact and1_lt _ | exact nb_p) ?_
          refine V_ior (pc := 29) dX3_childrenIn_29 ?_
          refine V_istore_n (pc := 30) dX3_childrenIn_30 (by decide) rfl ?_
          refine V_iinc (pc := 31) 1 dX3_childrenIn_31 (by decide) rfl (by decide) rfl ?_
          refine V_goto (pc := 34) 5 dX3_childrenIn_34 (by decide) ?_
          exact ih _ (by omega) (i + 1) _ rfl (by omega) (by rw [chA, pX_c (by omega), hs]; first | (rw [if_neg h_21, Nat.or_zero]; done) | rw [if_pos h_21])
  exact L_5 _ 0 _ rfl (by omega) rfl
def tk1 (σ : St) (k j n : Nat) : Nat → Nat := fun i => if i < n then σ (j + 1) i else pX σ k i
def tk2 (σ : St) (k j n : Nat) : Nat → Nat := fun i => if i < 5 then σ (j + 1) i else if 6 ≤ i ∧ i < 6 + n then σ (j + 2) (i - 6) else pX σ k i
set_option maxHeartbeats 4000000 in
set_option maxRecDepth 100000 in
theorem c_X3_take {B : Bk} {σ : St} {k j : Nat} (hk : kd k = (6, 0)) (hj : kd j = (6, 0)) (hne : j ≠ k) : MC yX3_take cX3_take 3 none 1 B [.ref (B.1 k), .ref (B.1 j)] σ (dV (stX σ k (pX σ j))) := by
  obtain ⟨k1, k2, k3, k4, k5⟩ := kd6' hk
  obtain ⟨j1, j2, j3, j4, j5⟩ := kd6' hj
  refine MC_void RX3 [some (.ref (B.1 k)), some (.ref (B.1 j)), none] 1 (by decide +kernel) rfl rfl (Nat.le_of_ble_eq_true rfl) (fun E Q hret => ?_)
  refine V_iconst (pc := 0) 0 dX3_take_0 (by decide) ?_
  refine V_istore_n (pc := 1) dX3_take_1 (by decide) rfl ?_
  have L_2 : ∀ (m : Nat) (i : Nat), 5 - i = m → i ≤ 5 → V E B RX3 cX3_take 3 1 Q 2 [some (.ref (B.1 k)), some (.ref (B.1 j)), some (.int (nI i))] [] (stX σ k (tk1 σ k j i)) := by
    intro m
    induction m using Nat.strongRecOn with
    | _ m ih =>
      intro i hm hi
      refine V_iload_n (pc := 2) dX3_take_2 rfl ?_
      refine V_aload_n (pc := 3) dX3_take_3 rfl ?_
      refine G_X3_cells (pc := 4) (by first | rfl | assumption) fl_X3_9 dX3_take_4 ?_
      refine V_alen (pc := 7) k1 (by decide) (by decide) dX3_take_7 ?_
      refine V_icmp_ge (pc := 8) 31 dX3_take_8 (by decide) (by first | omega | assumption | exact and1_lt _ | exact nb_p) (by first | omega | assumption | exact and1_lt _ | exact nb_p) (fun h_8 => ?_) (fun h_8 => ?_)
      · skip
        refine V_iconst (pc := 31) 0 dX3_take_31 (by decide) ?_
        refine V_istore_n (pc := 32) dX3_take_32 (by decide) rfl ?_
        have L_33 : ∀ (m : Nat) (i : Nat), 25 - i = m → i ≤ 25 → V E B RX3 cX3_take 3 1 Q 33 [some (.ref (B.1 k)), some (.ref (B.1 j)), some (.int (nI i))] [] (stX σ k (tk2 σ k j i)) := by
          intro m
          induction m using Nat.strongRecOn with
          | _ m ih =>
            intro n hm2 hn
            refine V_iload_n (pc := 33) dX3_take_33 rfl ?_
            refine V_aload_n (pc := 34) dX3_take_34 rfl ?_
            refine G_X3_known (pc := 35) (by first | rfl | assumption) fl_X3_15 dX3_take_35 ?_
            refine V_alen (pc := 38) k2 (by decide) (by decide) dX3_take_38 ?_
            refine V_icmp_ge (pc := 39) 62 dX3_take_39 (by decide) (by first | omega | assumption | exact and1_lt _ | exact nb_p) (by first | omega | assumption | exact and1_lt _ | exact nb_p) (fun h_39 => ?_) (fun h_39 => ?_)
            · skip
              refine V_aload_n (pc := 62) dX3_take_62 rfl ?_
              refine V_aload_n (pc := 63) dX3_take_63 rfl ?_
              refine G_X3_moored (pc := 64) (by first | rfl | assumption) fl_X3_39 dX3_take_64 ?_
              rw [stX_o (by omega) (by omega) (by omega)]
              refine P_X3_moored (pc := 67) (by first | rfl | assumption) fl_X3_39 dX3_take_67 ?_
              rw [stX_pm]
              refine V_aload_n (pc := 70) dX3_take_70 rfl ?_
              refine V_aload_n (pc := 71) dX3_take_71 rfl ?_
              refine G_X3_day (pc := 72) (by first | rfl | assumption) fl_X3_42 dX3_take_72 ?_
              rw [stX_o (by omega) (by omega) (by omega)]
              refine P_X3_day (pc := 75) (by first | rfl | assumption) fl_X3_42 dX3_take_75 ?_
              rw [stX_pd]
              exact hret _ _ _ dX3_take_78 (dV_mk (congrArg (stX σ k) (by
  funext q
  unfold fup tk2 pX
  rw [show n = 25 by omega]
  (repeat' split) <;> first | rfl | (exfalso; omega))))
            · skip
              refine V_aload_n (pc := 42) dX3_take_42 rfl ?_
              refine G_X3_known (pc := 43) (by first | rfl | assumption) fl_X3_15 dX3_take_43 ?_
              refine V_iload_n (pc := 46) dX3_take_46 rfl ?_
              refine V_aload_n (pc := 47) dX3_take_47 rfl ?_
              refine G_X3_known (pc := 48) (by first | rfl | assumption) fl_X3_15 dX3_take_48 ?_
              refine V_iload_n (pc := 51) dX3_take_51 rfl ?_
              refine V_callSN_I (pc := 52) ff_X4_at (List.mem_of_getElem? (i := 3) rfl) (c_X4_atI j2 (by omega)) dX3_take_52 rfl rfl (by decide) (by decide) (Nat.le_of_ble_eq_true rfl) ?_
              refine V_iast (pc := 55) k2 (by first | omega | assumption | exact and1_lt _ | exact nb_p) dX3_take_55 ?_
              refine V_iinc (pc := 56) 1 dX3_take_56 (by decide) rfl (by decide) rfl ?_
              refine V_goto (pc := 59) 33 dX3_take_59 (by decide) ?_
              rw [stX_o (by omega) (by omega) (by omega), stX_pn _ _ _ _ (by omega), show fup (tk2 σ k j n) (6 + n) (σ (j + 2) n) = tk2 σ k j (n + 1) by
                funext q
                unfold fup tk2
                by_cases h : q = 6 + n
                · rw [if_pos h, if_neg (by omega), if_pos (by omega), h, show 6 + n - 6 = n by omega]
                · rw [if_neg h]
                  by_cases h1 : q < 5
                  · rw [if_pos h1, if_pos h1]
                  · rw [if_neg h1, if_neg h1]
                    by_cases h2 : 6 ≤ q ∧ q < 6 + n
                    · rw [if_pos h2, if_pos (by omega)]
                    · rw [if_neg h2, if_neg (by omega)]]
              exact ih _ (by omega) (n + 1) rfl (by omega)
        rw [show tk1 σ k j i = tk2 σ k j 0 by
          funext q
          unfold tk1 tk2
          rw [show i = 5 by omega]
          by_cases h1 : q < 5
          · rw [if_pos h1, if_pos h1]
          · rw [if_neg h1, if_neg h1, if_neg (by omega)]]
        exact L_33 _ 0 rfl (by omega)
      · skip
        refine V_aload_n (pc := 11) dX3_take_11 rfl ?_
        refine G_X3_cells (pc := 12) (by first | rfl | assumption) fl_X3_9 dX3_take_12 ?_
        refine V_iload_n (pc := 15) dX3_take_15 rfl ?_
        refine V_aload_n (pc := 16) dX3_take_16 rfl ?_
        refine G_X3_cells (pc := 17) (by first | rfl | assumption) fl_X3_9 dX3_take_17 ?_
        refine V_iload_n (pc := 20) dX3_take_20 rfl ?_
        refine V_callSN_I (pc := 21) ff_X4_at (List.mem_of_getElem? (i := 3) rfl) (c_X4_atI j1 (by omega)) dX3_take_21 rfl rfl (by decide) (by decide) (Nat.le_of_ble_eq_true rfl) ?_
        refine V_iast (pc := 24) k1 (by first | omega | assumption | exact and1_lt _ | exact nb_p) dX3_take_24 ?_
        refine V_iinc (pc := 25) 1 dX3_take_25 (by decide) rfl (by decide) rfl ?_
        refine V_goto (pc := 28) 2 dX3_take_28 (by decide) ?_
        rw [stX_o (by omega) (by omega) (by omega), stX_pc _ _ _ _ (by omega), show fup (tk1 σ k j i) i (σ (j + 1) i) = tk1 σ k j (i + 1) by
          funext q
          unfold fup tk1
          by_cases h : q = i
          · rw [if_pos h, if_pos (by omega), h]
          · rw [if_neg h]
            by_cases h2 : q < i
            · rw [if_pos h2, if_pos (by omega)]
            · rw [if_neg h2, if_neg (by omega)]]
        exact ih _ (by omega) (i + 1) rfl (by omega)
  have e := L_2 _ 0 rfl (by omega)
  rw [show tk1 σ k j 0 = pX σ k by funext q; unfold tk1; rw [if_neg (by omega)], stX_self] at e
  exact e
