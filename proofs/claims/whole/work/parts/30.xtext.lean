/-! the class: the text, read -/
def RX (σ : St) (b d : Nat) (K : St) : Prop := (σ b 7 = K 0 0 ∧ σ b 8 = K 0 1 ∧ σ b 9 = K 0 2 ∧ σ b 10 = d) ∧ (∀ i, i < K 0 0 → σ (b + 1) i = K 1 i) ∧ (∀ g, g < K 0 1 → σ (b + 2) g = K 2 g) ∧ (∀ g, g < K 0 1 → σ (b + 3) g = K 3 g) ∧ (∀ g, g < K 0 1 → σ (b + 4) g = K 4 g) ∧ (∀ c, c < K 0 2 → σ (b + 5) c = K 6 c) ∧ (∀ c, c < K 0 2 → σ (b + 6) c = K 5 c) ∧ (d = 4 → σ (b + 2) (K 0 1) = K 2 (K 0 1)) ∧ (d = 5 → σ (b + 2) (K 0 1) = K 2 (K 0 1) ∧ σ (b + 3) (K 0 1) = K 3 (K 0 1)) ∧ (d = 7 → σ (b + 5) (K 0 2) = K 6 (K 0 2)) ∧ (∀ cell, cell < 12 → (σ (b + 7) cell = 0 ∧ ∀ g, g < K 0 1 → K 2 g ≠ cell) ∨ ∃ g, g < K 0 1 ∧ σ (b + 7) cell = g + 1 ∧ K 2 g = cell)
def OKD (d : Nat) (K : St) : Prop := d ≤ 7 ∧ OKT K ∧ (d = 2 → K 0 0 < 4) ∧ (d = 3 → K 0 1 < 6) ∧ (d = 4 → K 0 1 < 6 ∧ K 2 (K 0 1) < 12 ∧ ∀ g, g < K 0 1 → K 2 g ≠ K 2 (K 0 1)) ∧ (d = 5 → K 0 1 < 6 ∧ K 2 (K 0 1) < 12 ∧ K 3 (K 0 1) < 5 ∧ ∀ g, g < K 0 1 → K 2 g ≠ K 2 (K 0 1)) ∧ (d = 6 → K 0 2 < 5) ∧ (d = 7 → K 0 2 < 5 ∧ K 6 (K 0 2) < 12)
theorem OKD_2 {K : St} {v : Nat} (o : OKD 2 K) (hv : v ≤ 4) : OKD 1 (pt (pt K 1 (K 0 0) v) 0 0 (K 0 0 + 1)) := by
  unfold OKD OKT OKK at *
  simp [pt] at *
  grind
theorem OKD_3 {K : St} {v : Nat} (o : OKD 3 K) (hv : v < 12) (hn : ∀ g, g < K 0 1 → K 2 g ≠ v) : OKD 4 (pt K 2 (K 0 1) v) := by
  unfold OKD OKT OKK at *
  simp [pt] at *
  grind
theorem OKD_4 {K : St} {v : Nat} (o : OKD 4 K) (hv : v ≤ 4) : OKD 5 (pt K 3 (K 0 1) v) := by
  unfold OKD OKT OKK at *
  simp [pt] at *
  grind
theorem OKD_5 {K : St} {v : Nat} (o : OKD 5 K) (hv : v ≤ 3) : OKD 1 (pt (pt K 4 (K 0 1) v) 0 1 (K 0 1 + 1)) := by
  unfold OKD OKT OKK at *
  simp [pt] at *
  grind
theorem OKD_6 {K : St} {v : Nat} (o : OKD 6 K) (hv : v < 12) : OKD 7 (pt K 6 (K 0 2) v) := by
  unfold OKD OKT OKK at *
  simp [pt] at *
  grind
theorem OKD_7 {K : St} {v : Nat} (o : OKD 7 K) (hv : v ≤ 3) : OKD 1 (pt (pt K 5 (K 0 2) v) 0 2 (K 0 2 + 1)) := by
  unfold OKD OKT OKK at *
  simp [pt] at *
  grind
theorem RX_0 {σ K : St} {b d d' : Nat} (r : RX σ b d K) (h4 : d' ≠ 4) (h5 : d' ≠ 5) (h7 : d' ≠ 7) : RX (pt σ b 10 d') b d' K := by
  unfold RX at *
  simp [pt] at *
  grind
theorem RX_2 {σ K : St} {b v : Nat} (r : RX σ b 2 K) : RX (pt (pt (pt σ (b + 1) (σ b 7) v) b 7 (σ b 7 + 1)) b 10 1) b 1 (pt (pt K 1 (K 0 0) v) 0 0 (K 0 0 + 1)) := by
  unfold RX at *
  simp [pt] at *
  grind
theorem RX_3 {σ K : St} {b v : Nat} (r : RX σ b 3 K) : RX (pt (pt σ (b + 2) (σ b 8) v) b 10 4) b 4 (pt K 2 (K 0 1) v) := by
  unfold RX at *
  simp [pt] at *
  grind
theorem RX_4 {σ K : St} {b v : Nat} (r : RX σ b 4 K) : RX (pt (pt σ (b + 3) (σ b 8) v) b 10 5) b 5 (pt K 3 (K 0 1) v) := by
  unfold RX at *
  simp [pt] at *
  grind
theorem RX_5 {σ K : St} {b v : Nat} (r : RX σ b 5 K) (o : OKD 5 K) : RX (pt (pt (pt (pt σ (b + 4) (σ b 8) v) b 8 (σ b 8 + 1)) (b + 7) (σ (b + 2) (σ b 8)) (σ b 8 + 1)) b 10 1) b 1 (pt (pt K 4 (K 0 1) v) 0 1 (K 0 1 + 1)) := by
  unfold RX OKD at *
  simp [pt] at *
  grind
theorem RX_6 {σ K : St} {b v : Nat} (r : RX σ b 6 K) : RX (pt (pt σ (b + 5) (σ b 9) v) b 10 7) b 7 (pt K 6 (K 0 2) v) := by
  unfold RX at *
  simp [pt] at *
  grind
theorem RX_7 {σ K : St} {b v : Nat} (r : RX σ b 7 K) : RX (pt (pt (pt σ (b + 6) (σ b 9) v) b 9 (σ b 9 + 1)) b 10 1) b 1 (pt (pt K 5 (K 0 2) v) 0 2 (K 0 2 + 1)) := by
  unfold RX at *
  simp [pt] at *
  grind

set_option maxHeartbeats 4000000 in
set_option maxRecDepth 100000 in
theorem c_X0_goesOn {B : Bk} {σ : St} {b x : Nat} (hb : kd b = (3, 0)) : MC yX0_goesOn cX0_goesOn 2 (some .boolean) 0 B [.ref (B.1 b), .int (nI x)] σ (dI 1 (pt σ b 10 x)) := by
  refine MC_bool RX0 [some (.ref (B.1 b)), some (.int (nI x))] 0 (by decide +kernel) rfl rfl (Nat.le_of_ble_eq_true rfl) (fun E Q hret => ?_)
  refine V_aload_n (pc := 0) dX0_goesOn_0 rfl ?_
  refine V_iload_n (pc := 1) dX0_goesOn_1 rfl ?_
  refine P_X0_due (pc := 2) (by first | rfl | assumption) fl_X0_33 dX0_goesOn_2 ?_
  refine V_iconst (pc := 5) 1 dX0_goesOn_5 (by decide) ?_
  exact hret _ _ _ _ dX0_goesOn_6 (by first | decide | omega | (split <;> omega)) (dI_mk rfl rfl)
set_option maxHeartbeats 4000000 in
set_option maxRecDepth 100000 in
theorem c_X0_isWhole {B : Bk} {σ : St} {b : Nat} (hb : kd b = (3, 0)) (hd : σ b 10 ≤ 7) : MC yX0_isWhole cX0_isWhole 1 (some .boolean) 0 B [.ref (B.1 b)] σ (dI (if σ b 10 = 1 then 1 else 0) σ) := by
  refine MC_bool RX0 [some (.ref (B.1 b))] 0 (by decide +kernel) rfl rfl (Nat.le_of_ble_eq_true rfl) (fun E Q hret => ?_)
  refine V_aload_n (pc := 0) dX0_isWhole_0 rfl ?_
  refine G_X0_due (pc := 1) (by first | rfl | assumption) fl_X0_33 dX0_isWhole_1 ?_
  refine V_iconst (pc := 4) 1 dX0_isWhole_4 (by decide) ?_
  refine V_icmp_ne (pc := 5) 12 dX0_isWhole_5 (by decide) (by first | omega | assumption | exact and1_lt _ | exact nb_p) (by first | omega | assumption | exact and1_lt _ | exact nb_p) (fun h_5 => ?_) (fun h_5 => ?_)
  · skip
    refine V_iconst (pc := 12) 0 dX0_isWhole_12 (by decide) ?_
    exact hret _ _ _ _ dX0_isWhole_13 (by first | decide | omega | (split <;> omega)) (dI_mk (by first | rw [if_neg (by omega)] | rw [if_pos (by omega)]) rfl)
  · skip
    refine V_iconst (pc := 8) 1 dX0_isWhole_8 (by decide) ?_
    refine V_goto (pc := 9) 13 dX0_isWhole_9 (by decide) ?_
    exact hret _ _ _ _ dX0_isWhole_13 (by first | decide | omega | (split <;> omega)) (dI_mk (by first | rw [if_neg (by omega)] | rw [if_pos (by omega)]) rfl)
def clX (σ : St) (b n : Nat) : St := fun k i => if k = b + 7 ∧ i < n then 0 else if k = b ∧ 7 ≤ i ∧ i < 11 then 0 else σ k i
set_option maxHeartbeats 4000000 in
set_option maxRecDepth 100000 in
theorem c_X0_clear {B : Bk} {σ : St} {b : Nat} (hb : kd b = (3, 0)) : MC yX0_clear cX0_clear 2 none 0 B [.ref (B.1 b)] σ (dV (clX σ b 12)) := by
  obtain ⟨b1, b2, b3, b4, b5, b6, b7, b8⟩ := kd3' hb
  refine MC_void RX0 [some (.ref (B.1 b)), none] 1 (by decide +kernel) rfl rfl (Nat.le_of_ble_eq_true rfl) (fun E Q hret => ?_)
  refine V_aload_n (pc := 0) dX0_clear_0 rfl ?_
  refine V_iconst (pc := 1) 0 dX0_clear_1 (by decide) ?_
  refine P_X0_tides (pc := 2) (by first | rfl | assumption) fl_X0_37 dX0_clear_2 ?_
  refine V_aload_n (pc := 5) dX0_clear_5 rfl ?_
  refine V_iconst (pc := 6) 0 dX0_clear_6 (by decide) ?_
  refine P_X0_grounds (pc := 7) (by first | rfl | assumption) fl_X0_40 dX0_clear_7 ?_
  refine V_aload_n (pc := 10) dX0_clear_10 rfl ?_
  refine V_iconst (pc := 11) 0 dX0_clear_11 (by decide) ?_
  refine P_X0_children (pc := 12) (by first | rfl | assumption) fl_X0_43 dX0_clear_12 ?_
  refine V_aload_n (pc := 15) dX0_clear_15 rfl ?_
  refine V_iconst (pc := 16) 0 dX0_clear_16 (by decide) ?_
  refine P_X0_due (pc := 17) (by first | rfl | assumption) fl_X0_33 dX0_clear_17 ?_
  refine V_iconst (pc := 20) 0 dX0_clear_20 (by decide) ?_
  refine V_istore_n (pc := 21) dX0_clear_21 (by decide) rfl ?_
  have L_22 : ∀ (m : Nat) (i : Nat), 12 - i = m → i ≤ 12 → V E B RX0 cX0_clear 2 0 Q 22 [some (.ref (B.1 b)), some (.int (nI i))] [] (clX σ b i) := by
    intro m
    induction m using Nat.strongRecOn with
    | _ m ih =>
      intro i hm hi
      refine V_iload_n (pc := 22) dX0_clear_22 rfl ?_
      refine V_aload_n (pc := 23) dX0_clear_23 rfl ?_
      refine G_X0_groundsByCell (pc := 24) (by first | rfl | assumption) fl_X0_30 dX0_clear_24 ?_
      refine V_alen (pc := 27) b7 (by decide) (by decide) dX0_clear_27 ?_
      refine V_icmp_ge (pc := 28) 44 dX0_clear_28 (by decide) (by first | omega | assumption | exact and1_lt _ | exact nb_p) (by first | omega | assumption | exact and1_lt _ | exact nb_p) (fun h_28 => ?_) (fun h_28 => ?_)
      · skip
        exact hret _ _ _ dX0_clear_44 (dV_mk (by rw [show i = 12 by omega]))
      · skip
        refine V_aload_n (pc := 31) dX0_clear_31 rfl ?_
        refine G_X0_groundsByCell (pc := 32) (by first | rfl | assumption) fl_X0_30 dX0_clear_32 ?_
        refine V_iload_n (pc := 35) dX0_clear_35 rfl ?_
        refine V_iconst (pc := 36) 0 dX0_clear_36 (by decide) ?_
        refine V_iast (pc := 37) b7 (by first | omega | assumption | exact and1_lt _ | exact nb_p) dX0_clear_37 ?_
        refine V_iinc (pc := 38) 1 dX0_clear_38 (by decide) rfl (by decide) rfl ?_
        refine V_goto (pc := 41) 22 dX0_clear_41 (by decide) ?_
        rw [show pt (clX σ b i) (b + 7) i 0 = clX σ b (i + 1) by
          funext k j
          unfold pt clX
          grind]
        exact ih _ (by omega) (i + 1) rfl (by omega)
  have e := L_22 _ 0 rfl (by omega)
  rw [show clX σ b 0 = pt (pt (pt (pt σ b 7 0) b 8 0) b 9 0) b 10 0 by
    funext k j
    unfold pt clX
    grind] at e
  exact e
set_option maxHeartbeats 4000000 in
set_option maxRecDepth 100000 in
theorem c_X0_takesFigure {B : Bk} {σ : St} {b k n i v mo : Nat} (hb : kd b = (3, 0)) (hk : kd k = (0, n)) (hi : i < n) (hv : v < 2 ^ 32) (hm : mo < 2 ^ 31) : MC yX0_takesFigure cX0_takesFigure 5 (some .boolean) 1 B [.ref (B.1 b), .ref (B.1 k), .int (nI i), .int (nI v), .int (nI mo)] σ (dI (if v ≤ mo then 1 else 0) (if v ≤ mo then pt σ k i v else σ)) := by
  refine MC_bool RX0 [some (.ref (B.1 b)), some (.ref (B.1 k)), some (.int (nI i)), some (.int (nI v)), some (.int (nI mo))] 0 (by decide +kernel) rfl rfl (Nat.le_of_ble_eq_true rfl) (fun E Q hret => ?_)
  refine V_iload_n (pc := 0) dX0_takesFigure_0 rfl ?_
  refine V_if_lt (pc := 1) 10 dX0_takesFigure_1 (by decide) (by first | omega | assumption | exact and1_lt _ | exact nb_p) (fun h_1 => ?_) (fun h_1 => ?_)
  · skip
    refine V_iconst (pc := 10) 0 dX0_takesFigure_10 (by decide) ?_
    exact hret _ _ _ _ dX0_takesFigure_11 (by first | decide | omega | (split <;> omega)) (by first | exact dI_mk (by rw [if_neg (by omega)]) (by rw [if_neg (by omega)]) | exact dI_mk (by rw [if_pos (by omega)]) (by rw [if_pos (by omega)]))
  · skip
    refine V_iload_n (pc := 4) dX0_takesFigure_4 rfl ?_
    refine V_iload (pc := 5) dX0_takesFigure_5 rfl ?_
    refine V_icmp_le (pc := 7) 12 dX0_takesFigure_7 (by decide) (by first | omega | assumption | exact and1_lt _ | exact nb_p) (by first | omega | assumption | exact and1_lt _ | exact nb_p) (fun h_7 => ?_) (fun h_7 => ?_)
    · skip
      refine V_aload_n (pc := 12) dX0_takesFigure_12 rfl ?_
      refine V_iload_n (pc := 13) dX0_takesFigure_13 rfl ?_
      refine V_iload_n (pc := 14) dX0_takesFigure_14 rfl ?_
      refine V_callSN_V (pc := 15) ff_X4_lay (List.mem_of_getElem? (i := 0) rfl) (c_X4_layI hk hi) dX0_takesFigure_15 rfl rfl (by decide) (by decide) (Nat.le_of_ble_eq_true rfl) ?_
      refine V_iconst (pc := 18) 1 dX0_takesFigure_18 (by decide) ?_
      exact hret _ _ _ _ dX0_takesFigure_19 (by first | decide | omega | (split <;> omega)) (by first | exact dI_mk (by rw [if_neg (by omega)]) (by rw [if_neg (by omega)]) | exact dI_mk (by rw [if_pos (by omega)]) (by rw [if_pos (by omega)]))
    · skip
      refine V_iconst (pc := 10) 0 dX0_takesFigure_10 (by decide) ?_
      exact hret _ _ _ _ dX0_takesFigure_11 (by first | decide | omega | (split <;> omega)) (by first | exact dI_mk (by rw [if_neg (by omega)]) (by rw [if_neg (by omega)]) | exact dI_mk (by rw [if_pos (by omega)]) (by rw [if_pos (by omega)]))
set_option maxHeartbeats 4000000 in
set_option maxRecDepth 100000 in
theorem c_X0_endsTide {B : Bk} {σ : St} {b : Nat} (hb : kd b = (3, 0)) : MC yX0_endsTide cX0_endsTide 1 (some .boolean) 1 B [.ref (B.1 b)] σ (dI 1 (pt (pt σ b 7 (σ b 7 + 1)) b 10 1)) := by
  refine MC_bool RX0 [some (.ref (B.1 b))] 0 (by decide +kernel) rfl rfl (Nat.le_of_ble_eq_true rfl) (fun E Q hret => ?_)
  refine V_aload_n (pc := 0) dX0_endsTide_0 rfl ?_
  refine V_dup (pc := 1) dX0_endsTide_1 rfl ?_
  refine G_X0_tides (pc := 2) (by first | rfl | assumption) fl_X0_37 dX0_endsTide_2 ?_
  refine V_iconst (pc := 5) 1 dX0_endsTide_5 (by decide) ?_
  refine V_iadd (pc := 6) dX0_endsTide_6 ?_
  refine P_X0_tides (pc := 7) (by first | rfl | assumption) fl_X0_37 dX0_endsTide_7 ?_
  refine V_aload_n (pc := 10) dX0_endsTide_10 rfl ?_
  refine V_iconst (pc := 11) 1 dX0_endsTide_11 (by decide) ?_
  refine V_callV_I (pc := 12) ff_X0_goesOn ml_X0_50 (by first | rfl | assumption) rfl rfl (c_X0_goesOn (by assumption)) dX0_endsTide_12 rfl rfl (by decide) (by decide) (Nat.le_of_ble_eq_true rfl) ?_
  exact hret _ _ _ _ dX0_endsTide_15 (by first | decide | omega | (split <;> omega)) (dI_mk rfl rfl)
set_option maxHeartbeats 4000000 in
set_option maxRecDepth 100000 in
theorem c_X0_endsChild {B : Bk} {σ : St} {b : Nat} (hb : kd b = (3, 0)) : MC yX0_endsChild cX0_endsChild 1 (some .boolean) 1 B [.ref (B.1 b)] σ (dI 1 (pt (pt σ b 9 (σ b 9 + 1)) b 10 1)) := by
  refine MC_bool RX0 [some (.ref (B.1 b))] 0 (by decide +kernel) rfl rfl (Nat.le_of_ble_eq_true rfl) (fun E Q hret => ?_)
  refine V_aload_n (pc := 0) dX0_endsChild_0 rfl ?_
  refine V_dup (pc := 1) dX0_endsChild_1 rfl ?_
  refine G_X0_children (pc := 2) (by first | rfl | assumption) fl_X0_43 dX0_endsChild_2 ?_
  refine V_iconst (pc := 5) 1 dX0_endsChild_5 (by decide) ?_
  refine V_iadd (pc := 6) dX0_endsChild_6 ?_
  refine P_X0_children (pc := 7) (by first | rfl | assumption) fl_X0_43 dX0_endsChild_7 ?_
  refine V_aload_n (pc := 10) dX0_endsChild_10 rfl ?_
  refine V_iconst (pc := 11) 1 dX0_endsChild_11 (by decide) ?_
  refine V_callV_I (pc := 12) ff_X0_goesOn ml_X0_50 (by first | rfl | assumption) rfl rfl (c_X0_goesOn (by assumption)) dX0_endsChild_12 rfl rfl (by decide) (by decide) (Nat.le_of_ble_eq_true rfl) ?_
  exact hret _ _ _ _ dX0_endsChild_15 (by first | decide | omega | (split <;> omega)) (dI_mk rfl rfl)
set_option maxHeartbeats 4000000 in
set_option maxRecDepth 100000 in
theorem c_X0_endsGround {B : Bk} {σ : St} {b : Nat} (hb : kd b = (3, 0)) (h6 : σ b 8 < 6) (h12 : σ (b + 2) (σ b 8) < 12) : MC yX0_endsGround cX0_endsGround 1 (some .boolean) 1 B [.ref (B.1 b)] σ (dI 1 (pt (pt (pt σ b 8 (σ b 8 + 1)) (b + 7) (σ (b + 2) (σ b 8)) (σ b 8 + 1)) b 10 1)) := by
  obtain ⟨b1, b2, b3, b4, b5, b6, b7, b8⟩ := kd3' hb
  refine MC_bool RX0 [some (.ref (B.1 b))] 0 (by decide +kernel) rfl rfl (Nat.le_of_ble_eq_true rfl) (fun E Q hret => ?_)
  refine V_aload_n (pc := 0) dX0_endsGround_0 rfl ?_
  refine V_dup (pc := 1) dX0_endsGround_1 rfl ?_
  refine G_X0_grounds (pc := 2) (by first | rfl | assumption) fl_X0_40 dX0_endsGround_2 ?_
  refine V_iconst (pc := 5) 1 dX0_endsGround_5 (by decide) ?_
  refine V_iadd (pc := 6) dX0_endsGround_6 ?_
  refine P_X0_grounds (pc := 7) (by first | rfl | assumption) fl_X0_40 dX0_endsGround_7 ?_
  refine V_aload_n (pc := 10) dX0_endsGround_10 rfl ?_
  refine G_X0_groundsByCell (pc := 11) (by first | rfl | assumption) fl_X0_30 dX0_endsGround_11 ?_
  refine V_aload_n (pc := 14) dX0_endsGround_14 rfl ?_
  refine G_X0_groundCells (pc := 15) (by first | rfl | assumption) fl_X0_15 dX0_endsGround_15 ?_
  refine V_aload_n (pc := 18) dX0_endsGround_18 rfl ?_
  refine G_X0_grounds (pc := 19) (by first | rfl | assumption) fl_X0_40 dX0_endsGround_19 ?_
  rw [pt_at]
  refine V_iconst (pc := 22) 1 dX0_endsGround_22 (by decide) ?_
  refine V_isub (pc := 23) dX0_endsGround_23 (by omega) ?_
  rw [Nat.add_sub_cancel]
  refine V_callSN_I (pc := 24) ff_X4_at (List.mem_of_getElem? (i := 1) rfl) (c_X4_atI b2 h6) dX0_endsGround_24 rfl rfl (by decide) (by decide) (Nat.le_of_ble_eq_true rfl) ?_
  rw [pt_ne (by omega)]
  refine V_aload_n (pc := 27) dX0_endsGround_27 rfl ?_
  refine G_X0_grounds (pc := 28) (by first | rfl | assumption) fl_X0_40 dX0_endsGround_28 ?_
  rw [pt_at]
  refine V_callSN_V (pc := 31) ff_X4_lay (List.mem_of_getElem? (i := 0) rfl) (c_X4_layI b7 h12) dX0_endsGround_31 rfl rfl (by decide) (by decide) (Nat.le_of_ble_eq_true rfl) ?_
  refine V_aload_n (pc := 34) dX0_endsGround_34 rfl ?_
  refine V_iconst (pc := 35) 1 dX0_endsGround_35 (by decide) ?_
  refine V_callV_I (pc := 36) ff_X0_goesOn ml_X0_50 (by first | rfl | assumption) rfl rfl (c_X0_goesOn (by assumption)) dX0_endsGround_36 rfl rfl (by decide) (by decide) (Nat.le_of_ble_eq_true rfl) ?_
  exact hret _ _ _ _ dX0_endsGround_39 (by first | decide | omega | (split <;> omega)) (dI_mk rfl rfl)
def tkP (σ : St) (b d x : Nat) (K : St) : Option Value → St → Prop := fun v u => (∀ k, (k < b ∨ b + 8 ≤ k) → u k = σ k) ∧ ((∃ d' K', stp d x K = some (d', K') ∧ v = some (.int (nI 1)) ∧ RX u b d' K' ∧ OKD d' K') ∨ (stp d x K = none ∧ v = some (.int (nI 0))))
theorem tk_t {σ u K K' : St} {b d x d' : Nat} (hs : ∀ k, (k < b ∨ b + 8 ≤ k) → u k = σ k) (h : stp d x K = some (d', K')) (r : RX u b d' K') (o : OKD d' K') : tkP σ b d x K (some (.int (nI 1))) u := ⟨hs, Or.inl ⟨d', K', h, rfl, r, o⟩⟩
theorem tk_f {σ u K : St} {b d x : Nat} (hs : ∀ k, (k < b ∨ b + 8 ≤ k) → u k = σ k) (h : stp d x K = none) : tkP σ b d x K (some (.int (nI 0))) u := ⟨hs, Or.inr ⟨h, rfl⟩⟩
theorem OKD_1 {K : St} (o : OKD 1 K) {d' : Nat} (h : (d' = 2 ∧ K 0 0 < 4) ∨ (d' = 3 ∧ K 0 1 < 6) ∨ (d' = 6 ∧ K 0 2 < 5)) : OKD d' K := by
  unfold OKD at *
  rcases h with ⟨rfl, h⟩ | ⟨rfl, h⟩ | ⟨rfl, h⟩ <;> grind
theorem OKD_0 {K : St} (o : OKD 0 K) : OKD 1 K := by
  unfold OKD at *
  grind
theorem rxs {σ : St} {b i x : Nat} : ∀ k, (k < b ∨ b + 8 ≤ k) → pt σ b i x k = σ k := fun k h => pt_o (by omega)
theorem rxs2 {σ : St} {b c i j x y : Nat} (hc : c < 8) : ∀ k, (k < b ∨ b + 8 ≤ k) → pt (pt σ (b + c) i x) b j y k = σ k := fun k h => by rw [pt_o (by omega), pt_o (by omega)]
theorem rxs3 {σ : St} {b c i j l x y z : Nat} (hc : c < 8) : ∀ k, (k < b ∨ b + 8 ≤ k) → pt (pt (pt σ (b + c) i x) b j y) b l z k = σ k := fun k h => by rw [pt_o (by omega), pt_o (by omega), pt_o (by omega)]
theorem st0 {K : St} {x : Nat} : stp 0 x K = if x = 83 then some (1, K) else none := rfl
set_option maxHeartbeats 4000000 in
set_option maxRecDepth 100000 in
theorem c_X0_takesPart {B : Bk} {σ : St} {b x : Nat} {K : St} (hb : kd b = (3, 0)) (r : RX σ b 1 K) (o : OKD 1 K) (hx : x < 256) : MC yX0_takesPart cX0_takesPart 2 (some .boolean) 1 B [.ref (B.1 b), .int (nI x)] σ (tkP σ b 1 x K) := by
  obtain ⟨⟨r7, r8, r9, r10⟩, -⟩ := id r
  obtain ⟨-, ⟨⟨o0, o1, o2, -⟩, -⟩, -⟩ := id o
  refine MC_bool RX0 [some (.ref (B.1 b)), some (.int (nI x))] 0 (by decide +kernel) rfl rfl (Nat.le_of_ble_eq_true rfl) (fun E Q hret => ?_)
  refine V_iload_n (pc := 0) dX0_takesPart_0 rfl ?_
  by_cases hs_1_67 : x = 67
  · skip
    refine V_lookK (pc := 1) (m := 67) 81 dX0_takesPart_1 hs_1_67 (by decide) rfl (by decide) ?_
    refine V_aload_n (pc := 81) dX0_takesPart_81 rfl ?_
    refine G_X0_children (pc := 82) (by first | rfl | assumption) fl_X0_43 dX0_takesPart_82 ?_
    refine V_iconst (pc := 85) 5 dX0_takesPart_85 (by decide) ?_
    refine V_icmp_ge (pc := 86) 102 dX0_takesPart_86 (by decide) (by first | omega | assumption | exact and1_lt _ | exact nb_p) (by first | omega | assumption | exact and1_lt _ | exact nb_p) (fun h_86 => ?_) (fun h_86 => ?_)
    · skip
      refine V_iconst (pc := 102) 0 dX0_takesPart_102 (by decide) ?_
      exact hret _ _ _ _ dX0_takesPart_103 (by first | decide | omega | (split <;> omega)) (by first | exact (tk_t rxs (d' := 6) (K' := K) (by rw [st1]; grind) (RX_0 r (by decide) (by decide) (by decide)) (OKD_1 o (by omega))) | exact (tk_f (fun _ _ => rfl) (by rw [st1]; grind)))
    · skip
      refine V_aload_n (pc := 89) dX0_takesPart_89 rfl ?_
      refine V_bipush (pc := 90) 6 dX0_takesPart_90 (by decide) ?_
      refine V_callV_I (pc := 92) ff_X0_goesOn ml_X0_50 (by first | rfl | assumption) rfl rfl (c_X0_goesOn (by assumption)) dX0_takesPart_92 rfl rfl (by decide) (by decide) (Nat.le_of_ble_eq_true rfl) ?_
      refine V_if_eq (pc := 95) 102 dX0_takesPart_95 (by decide) (by first | omega | assumption | exact and1_lt _ | exact nb_p) (fun h_95 => absurd h_95 (by omega)) (fun h_95 => ?_)
      refine V_iconst (pc := 98) 1 dX0_takesPart_98 (by decide) ?_
      refine V_goto (pc := 99) 103 dX0_takesPart_99 (by decide) ?_
      exact hret _ _ _ _ dX0_takesPart_103 (by first | decide | omega | (split <;> omega)) (by first | exact (tk_t rxs (d' := 6) (K' := K) (by rw [st1]; grind) (RX_0 r (by decide) (by decide) (by decide)) (OKD_1 o (by omega))) | exact (tk_f (fun _ _ => rfl) (by rw [st1]; grind)))
  by_cases hs_1_71 : x = 71
  · skip
    refine V_lookK (pc := 1) (m := 71) 58 dX0_takesPart_1 hs_1_71 (by decide) rfl (by decide) ?_
    refine V_aload_n (pc := 58) dX0_takesPart_58 rfl ?_
    refine G_X0_grounds (pc := 59) (by first | rfl | assumption) fl_X0_40 dX0_takesPart_59 ?_
    refine V_bipush (pc := 62) 6 dX0_takesPart_62 (by decide) ?_
    refine V_icmp_ge (pc := 64) 79 dX0_takesPart_64 (by decide) (by first | omega | assumption | exact and1_lt _ | exact nb_p) (by first | omega | assumption | exact and1_lt _ | exact nb_p) (fun h_64 => ?_) (fun h_64 => ?_)
    · skip
      refine V_iconst (pc := 79) 0 dX0_takesPart_79 (by decide) ?_
      exact hret _ _ _ _ dX0_takesPart_80 (by first | decide | omega | (split <;> omega)) (by first | exact (tk_t rxs (d' := 3) (K' := K) (by rw [st1]; grind) (RX_0 r (by decide) (by decide) (by decide)) (OKD_1 o (by omega))) | exact (tk_f (fun _ _ => rfl) (by rw [st1]; grind)))
    · skip
      refine V_aload_n (pc := 67) dX0_takesPart_67 rfl ?_
      refine V_iconst (pc := 68) 3 dX0_takesPart_68 (by decide) ?_
      refine V_callV_I (pc := 69) ff_X0_goesOn ml_X0_50 (by first | rfl | assumption) rfl rfl (c_X0_goesOn (by assumption)) dX0_takesPart_69 rfl rfl (by decide) (by decide) (Nat.le_of_ble_eq_true rfl) ?_
      refine V_if_eq (pc := 72) 79 dX0_takesPart_72 (by decide) (by first | omega | assumption | exact and1_lt _ | exact nb_p) (fun h_72 => absurd h_72 (by omega)) (fun h_72 => ?_)
      refine V_iconst (pc := 75) 1 dX0_takesPart_75 (by decide) ?_
      refine V_goto (pc := 76) 80 dX0_takesPart_76 (by decide) ?_
      exact hret _ _ _ _ dX0_takesPart_80 (by first | decide | omega | (split <;> omega)) (by first | exact (tk_t rxs (d' := 3) (K' := K) (by rw [st1]; grind) (RX_0 r (by decide) (by decide) (by decide)) (OKD_1 o (by omega))) | exact (tk_f (fun _ _ => rfl) (by rw [st1]; grind)))
  by_cases hs_1_84 : x = 84
  · skip
    refine V_lookK (pc := 1) (m := 84) 36 dX0_takesPart_1 hs_1_84 (by decide) rfl (by decide) ?_
    refine V_aload_n (pc := 36) dX0_takesPart_36 rfl ?_
    refine G_X0_tides (pc := 37) (by first | rfl | assumption) fl_X0_37 dX0_takesPart_37 ?_
    refine V_iconst (pc := 40) 4 dX0_takesPart_40 (by decide) ?_
    refine V_icmp_ge (pc := 41) 56 dX0_takesPart_41 (by decide) (by first | omega | assumption | exact and1_lt _ | exact nb_p) (by first | omega | assumption | exact and1_lt _ | exact nb_p) (fun h_41 => ?_) (fun h_41 => ?_)
    · skip
      refine V_iconst (pc := 56) 0 dX0_takesPart_56 (by decide) ?_
      exact hret _ _ _ _ dX0_takesPart_57 (by first | decide | omega | (split <;> omega)) (by first | exact (tk_t rxs (d' := 2) (K' := K) (by rw [st1]; grind) (RX_0 r (by decide) (by decide) (by decide)) (OKD_1 o (by omega))) | exact (tk_f (fun _ _ => rfl) (by rw [st1]; grind)))
    · skip
      refine V_aload_n (pc := 44) dX0_takesPart_44 rfl ?_
      refine V_iconst (pc := 45) 2 dX0_takesPart_45 (by decide) ?_
      refine V_callV_I (pc := 46) ff_X0_goesOn ml_X0_50 (by first | rfl | assumption) rfl rfl (c_X0_goesOn (by assumption)) dX0_takesPart_46 rfl rfl (by decide) (by decide) (Nat.le_of_ble_eq_true rfl) ?_
      refine V_if_eq (pc := 49) 56 dX0_takesPart_49 (by decide) (by first | omega | assumption | exact and1_lt _ | exact nb_p) (fun h_49 => absurd h_49 (by omega)) (fun h_49 => ?_)
      refine V_iconst (pc := 52) 1 dX0_takesPart_52 (by decide) ?_
      refine V_goto (pc := 53) 57 dX0_takesPart_53 (by decide) ?_
      exact hret _ _ _ _ dX0_takesPart_57 (by first | decide | omega | (split <;> omega)) (by first | exact (tk_t rxs (d' := 2) (K' := K) (by rw [st1]; grind) (RX_0 r (by decide) (by decide) (by decide)) (OKD_1 o (by omega))) | exact (tk_f (fun _ _ => rfl) (by rw [st1]; grind)))
  refine V_lookO (pc := 1) 104 dX0_takesPart_1 (by decide) (by first | omega | assumption | exact and1_lt _ | exact nb_p) (by intro q hq; simp only [List.mem_cons, List.not_mem_nil, or_false] at hq; rcases hq with rfl | rfl | rfl <;> omega) (by decide) ?_
  refine V_iconst (pc := 104) 0 dX0_takesPart_104 (by decide) ?_
  exact hret _ _ _ _ dX0_takesPart_105 (by first | decide | omega | (split <;> omega)) (tk_f (fun _ _ => rfl) (by rw [st1]; grind))
theorem sbw {x z : Nat} (hx : x < 256) (hz : z < 256) : ∃ w, nI x - nI z = nI w ∧ w < 2 ^ 32 ∧ ((z ≤ x ∧ w = x - z) ∨ (x < z ∧ 256 ≤ w)) := by
  rcases (show z ≤ x ∨ x < z by omega) with h | h
  · exact ⟨x - z, pk_sub h, by omega, Or.inl ⟨h, rfl⟩⟩
  · exact ⟨x + (4294967296 - z), nI_subw (by omega), by omega, Or.inr ⟨h, by omega⟩⟩
theorem gIn_l {σ : St} {b c : Nat} (hg : ∀ i, i < 12 → σ (b + 7) i ≤ 6) : gIn σ b c < 2 ^ 32 := by
  unfold gIn
  split
  · have := hg c (by omega); omega
  · decide
theorem RX_by {σ K : St} {b d : Nat} (r : RX σ b d K) (o : K 0 1 ≤ 6) : ∀ i, i < 12 → σ (b + 7) i ≤ 6 := fun i hi => by
  rcases r.2.2.2.2.2.2.2.2.2.2 i hi with ⟨h1, -⟩ | ⟨g, h1, h2, -⟩ <;> omega
theorem RX_gi {σ K : St} {b d c : Nat} (r : RX σ b d K) (o : K 0 1 ≤ 6) (hc : c < 12) : gIn σ b c = 4294967287 ↔ ∀ g, g < K 0 1 → K 2 g ≠ c := by
  unfold gIn
  rcases r.2.2.2.2.2.2.2.2.2.2 c hc with ⟨h1, h2⟩ | ⟨g, h1, h2, h3⟩
  · rw [if_neg (by omega)]
    exact ⟨fun _ => h2, fun _ => rfl⟩
  · rw [if_pos (by omega), h2]
    exact ⟨fun q => by omega, fun q => absurd h3 (q g h1)⟩
set_option maxHeartbeats 4000000 in
set_option maxRecDepth 100000 in
theorem c_X0_takes {B : Bk} {σ : St} {b d x : Nat} {K : St} (hb : kd b = (3, 0)) (r : RX σ b d K) (o : OKD d K) (hx : x < 256) : MC yX0_takes cX0_takes 4 (some .boolean) 2 B [.ref (B.1 b), .int (nI x)] σ (tkP σ b d x K) := by
  obtain ⟨b1, b2, b3, b4, b5, b6, b7, b8⟩ := kd3' hb
  obtain ⟨⟨r7, r8, r9, r10⟩, -, -, -, -, -, -, -, r5, -⟩ := id r
  obtain ⟨od, ⟨⟨o0, o1, o2, -⟩, -⟩, od2, od3, od4, o5, od6, od7⟩ := id o
  have hby := RX_by r o1
  refine MC_bool RX0 [some (.ref (B.1 b)), some (.int (nI x)), none, none] 2 (by decide +kernel) rfl rfl (Nat.le_of_ble_eq_true rfl) (fun E Q hret => ?_)
  refine V_iload_n (pc := 0) dX0_takes_0 rfl ?_
  refine V_bipush (pc := 1) 48 dX0_takes_1 (by decide) ?_
  obtain ⟨w, hw, hwl, hw2⟩ := sbw hx (show 48 < 256 by decide)
  refine V_isubR (pc := 3) dX0_takes_3 ?_
  rw [hw]
  refine V_istore_n (pc := 4) dX0_takes_4 (by decide) rfl ?_
  refine V_iload_n (pc := 5) dX0_takes_5 rfl ?_
  refine V_bipush (pc := 6) 97 dX0_takes_6 (by decide) ?_
  obtain ⟨c, hc, hcl, hc2⟩ := sbw hx (show 97 < 256 by decide)
  refine V_isubR (pc := 8) dX0_takes_8 ?_
  rw [hc]
  refine V_istore_n (pc := 9) dX0_takes_9 (by decide) rfl ?_
  refine V_aload_n (pc := 10) dX0_takes_10 rfl ?_
  refine G_X0_due (pc := 11) (by first | rfl | assumption) fl_X0_33 dX0_takes_11 ?_
  rw [r10]
  by_cases hs_14_0 : d = 0
  · skip
    refine V_tabK (pc := 14) (m := 0) 60 dX0_takes_14 hs_14_0 (by decide) (by decide) rfl (by decide) ?_
    subst hs_14_0
    refine V_iload_n (pc := 60) dX0_takes_60 rfl ?_
    refine V_bipush (pc := 61) 83 dX0_takes_61 (by decide) ?_
    refine V_icmp_ne (pc := 63) 78 dX0_takes_63 (by decide) (by first | omega | assumption | exact and1_lt _ | exact nb_p) (by first | omega | assumption | exact and1_lt _ | exact nb_p) (fun h_63 => ?_) (fun h_63 => ?_)
    · skip
      refine V_iconst (pc := 78) 0 dX0_takes_78 (by decide) ?_
      exact hret _ _ _ _ dX0_takes_79 (by first | decide | omega | (split <;> omega)) (by first | exact tk_f (fun _ _ => rfl) (by rw [st0, if_neg (by omega)]) | exact tk_t rxs (by rw [st0, if_pos (by omega)]) (RX_0 r (by decide) (by decide) (by decide)) (OKD_0 o))
    · skip
      refine V_aload_n (pc := 66) dX0_takes_66 rfl ?_
      refine V_iconst (pc := 67) 1 dX0_takes_67 (by decide) ?_
      refine V_callV_I (pc := 68) ff_X0_goesOn ml_X0_50 (by first | rfl | assumption) rfl rfl (c_X0_goesOn (by assumption)) dX0_takes_68 rfl rfl (by decide) (by decide) (Nat.le_of_ble_eq_true rfl) ?_
      refine V_if_eq (pc := 71) 78 dX0_takes_71 (by decide) (by first | omega | assumption | exact and1_lt _ | exact nb_p) (fun h_71 => absurd h_71 (by omega)) (fun h_71 => ?_)
      refine V_iconst (pc := 74) 1 dX0_takes_74 (by decide) ?_
      refine V_goto (pc := 75) 79 dX0_takes_75 (by decide) ?_
      exact hret _ _ _ _ dX0_takes_79 (by first | decide | omega | (split <;> omega)) (by first | exact tk_f (fun _ _ => rfl) (by rw [st0, if_neg (by omega)]) | exact tk_t rxs (by rw [st0, if_pos (by omega)]) (RX_0 r (by decide) (by decide) (by decide)) (OKD_0 o))
  by_cases hs_14_1 : d = 1
  · skip
    refine V_tabK (pc := 14) (m := 1) 80 dX0_takes_14 hs_14_1 (by decide) (by decide) rfl (by decide) ?_
    subst hs_14_1
    refine V_aload_n (pc := 80) dX0_takes_80 rfl ?_
    refine V_iload_n (pc := 81) dX0_takes_81 rfl ?_
    refine V_callV (pc := 82) ff_X0_takesPart ml_X0_54 (by first | rfl | assumption) rfl rfl (c_X0_takesPart hb r o hx) dX0_takes_82 rfl rfl (by decide) (by decide) (Nat.le_of_ble_eq_true rfl) (fun v u hu => ?_)
    obtain ⟨hs, ⟨d2, K2, e1, rfl, e3, e4⟩ | ⟨e1, rfl⟩⟩ := hu
    all_goals simp only [Option.toList, List.cons_append, List.nil_append]
    · exact hret _ _ _ _ dX0_takes_85 (by decide) ⟨hs, Or.inl ⟨d2, K2, e1, rfl, e3, e4⟩⟩
    exact hret _ _ _ _ dX0_takes_85 (by first | decide | omega | (split <;> omega)) ⟨hs, Or.inr ⟨e1, rfl⟩⟩
  by_cases hs_14_2 : d = 2
  · skip
    refine V_tabK (pc := 14) (m := 2) 86 dX0_takes_14 hs_14_2 (by decide) (by decide) rfl (by decide) ?_
    subst hs_14_2
    refine V_aload_n (pc := 86) dX0_takes_86 rfl ?_
    refine V_aload_n (pc := 87) dX0_takes_87 rfl ?_
    refine G_X0_ways (pc := 88) (by first | rfl | assumption) fl_X0_9 dX0_takes_88 ?_
    refine V_aload_n (pc := 91) dX0_takes_91 rfl ?_
    refine G_X0_tides (pc := 92) (by first | rfl | assumption) fl_X0_37 dX0_takes_92 ?_
    refine V_iload_n (pc := 95) dX0_takes_95 rfl ?_
    refine V_iconst (pc := 96) 4 dX0_takes_96 (by decide) ?_
    refine V_callV_I (pc := 97) ff_X0_takesFigure ml_X0_57 (by first | rfl | assumption) rfl rfl (c_X0_takesFigure hb b1 (by omega) hwl (by decide)) dX0_takes_97 rfl rfl (by decide) (by decide) (Nat.le_of_ble_eq_true rfl) ?_
    refine V_ifb_eq (pc := 100) 114 dX0_takes_100 (by decide) (fun h_100 => ?_) (fun h_100 => ?_)
    · skip
      rw [if_neg h_100]
      refine V_iconst (pc := 114) 0 dX0_takes_114 (by decide) ?_
      exact hret _ _ _ _ dX0_takes_115 (by first | decide | omega | (split <;> omega)) (by
  first
  | exact tk_f (fun _ _ => rfl) (by rw [st2, if_neg (by omega)])
  | exact tk_t (rxs3 (by decide)) (by rw [st2, if_pos (by omega)]) (RX_2 r) (OKD_2 o (by omega)))
    · skip
      rw [if_pos h_100]
      obtain rfl : w = x - 48 := by omega
      refine V_aload_n (pc := 103) dX0_takes_103 rfl ?_
      refine V_callV_I (pc := 104) ff_X0_endsTide ml_X0_61 (by first | rfl | assumption) rfl rfl (c_X0_endsTide hb) dX0_takes_104 rfl rfl (by decide) (by decide) (Nat.le_of_ble_eq_true rfl) ?_
      rw [pt_ne (by omega)]
      refine V_if_eq (pc := 107) 114 dX0_takes_107 (by decide) (by first | omega | assumption | exact and1_lt _ | exact nb_p) (fun h_107 => absurd h_107 (by omega)) (fun h_107 => ?_)
      refine V_iconst (pc := 110) 1 dX0_takes_110 (by decide) ?_
      refine V_goto (pc := 111) 115 dX0_takes_111 (by decide) ?_
      exact hret _ _ _ _ dX0_takes_115 (by first | decide | omega | (split <;> omega)) (by
  first
  | exact tk_f (fun _ _ => rfl) (by rw [st2, if_neg (by omega)])
  | exact tk_t (rxs3 (by decide)) (by rw [st2, if_pos (by omega)]) (RX_2 r) (OKD_2 o (by omega)))
  by_cases hs_14_3 : d = 3
  · skip
    refine V_tabK (pc := 14) (m := 3) 116 dX0_takes_14 hs_14_3 (by decide) (by decide) rfl (by decide) ?_
    subst hs_14_3
    refine V_aload_n (pc := 116) dX0_takes_116 rfl ?_
    refine V_iload_n (pc := 117) dX0_takes_117 rfl ?_
    refine V_callV_I (pc := 118) ff_X0_groundIn ml_X0_65 (by first | rfl | assumption) rfl rfl (c_X0_groundIn hb hcl hby) dX0_takes_118 rfl rfl (by decide) (by decide) (Nat.le_of_ble_eq_true rfl) ?_
    refine V_bipush (pc := 121) 4294967287 dX0_takes_121 (by decide) ?_
    refine V_icmp_ne (pc := 123) 156 dX0_takes_123 (by decide) (gIn_l hby) (by decide) (fun h_123 => ?_) (fun h_123 => ?_)
    · skip
      refine V_iconst (pc := 156) 0 dX0_takes_156 (by decide) ?_
      exact hret _ _ _ _ dX0_takes_157 (by first | decide | omega | (split <;> omega)) (by
  first
  | exact tk_f (fun _ _ => rfl) (by rw [st3, if_neg (fun q => by first | (exfalso; omega) | (obtain rfl : c = x - 97 := (by omega); exact h_123 ((RX_gi r o1 (by omega)).mpr q.2.2)))])
  | exact tk_t (rxs2 (by decide)) (by rw [st3, if_pos ⟨by omega, by omega, (RX_gi r o1 (by omega)).mp h_123⟩]) (RX_3 r) (OKD_3 o (by omega) ((RX_gi r o1 (by omega)).mp h_123)))
    · skip
      refine V_aload_n (pc := 126) dX0_takes_126 rfl ?_
      refine V_aload_n (pc := 127) dX0_takes_127 rfl ?_
      refine G_X0_groundCells (pc := 128) (by first | rfl | assumption) fl_X0_15 dX0_takes_128 ?_
      refine V_aload_n (pc := 131) dX0_takes_131 rfl ?_
      refine G_X0_grounds (pc := 132) (by first | rfl | assumption) fl_X0_40 dX0_takes_132 ?_
      refine V_iload_n (pc := 135) dX0_takes_135 rfl ?_
      refine V_bipush (pc := 136) 11 dX0_takes_136 (by decide) ?_
      refine V_callV_I (pc := 138) ff_X0_takesFigure ml_X0_57 (by first | rfl | assumption) rfl rfl (c_X0_takesFigure hb b2 (by omega) hcl (by decide)) dX0_takes_138 rfl rfl (by decide) (by decide) (Nat.le_of_ble_eq_true rfl) ?_
      refine V_ifb_eq (pc := 141) 156 dX0_takes_141 (by decide) (fun h_141 => ?_) (fun h_141 => ?_)
      · skip
        rw [if_neg h_141]
        refine V_iconst (pc := 156) 0 dX0_takes_156 (by decide) ?_
        exact hret _ _ _ _ dX0_takes_157 (by first | decide | omega | (split <;> omega)) (by
  first
  | exact tk_f (fun _ _ => rfl) (by rw [st3, if_neg (fun q => by first | (exfalso; omega) | (obtain rfl : c = x - 97 := (by omega); exact h_123 ((RX_gi r o1 (by omega)).mpr q.2.2)))])
  | exact tk_t (rxs2 (by decide)) (by rw [st3, if_pos ⟨by omega, by omega, (RX_gi r o1 (by omega)).mp h_123⟩]) (RX_3 r) (OKD_3 o (by omega) ((RX_gi r o1 (by omega)).mp h_123)))
      · skip
        rw [if_pos h_141]
        obtain rfl : c = x - 97 := by omega
        refine V_aload_n (pc := 144) dX0_takes_144 rfl ?_
        refine V_iconst (pc := 145) 4 dX0_takes_145 (by decide) ?_
        refine V_callV_I (pc := 146) ff_X0_goesOn ml_X0_50 (by first | rfl | assumption) rfl rfl (c_X0_goesOn (by assumption)) dX0_takes_146 rfl rfl (by decide) (by decide) (Nat.le_of_ble_eq_true rfl) ?_
        refine V_if_eq (pc := 149) 156 dX0_takes_149 (by decide) (by first | omega | assumption | exact and1_lt _ | exact nb_p) (fun h_149 => absurd h_149 (by omega)) (fun h_149 => ?_)
        refine V_iconst (pc := 152) 1 dX0_takes_152 (by decide) ?_
        refine V_goto (pc := 153) 157 dX0_takes_153 (by decide) ?_
        exact hret _ _ _ _ dX0_takes_157 (by first | decide | omega | (split <;> omega)) (by
  first
  | exact tk_f (fun _ _ => rfl) (by rw [st3, if_neg (fun q => by first | (exfalso; omega) | (obtain rfl : c = x - 97 := (by omega); exact h_123 ((RX_gi r o1 (by omega)).mpr q.2.2)))])
  | exact tk_t (rxs2 (by decide)) (by rw [st3, if_pos ⟨by omega, by omega, (RX_gi r o1 (by omega)).mp h_123⟩]) (RX_3 r) (OKD_3 o (by omega) ((RX_gi r o1 (by omega)).mp h_123)))
  by_cases hs_14_4 : d = 4
  · skip
    refine V_tabK (pc := 14) (m := 4) 158 dX0_takes_14 hs_14_4 (by decide) (by decide) rfl (by decide) ?_
    subst hs_14_4
    refine V_aload_n (pc := 158) dX0_takes_158 rfl ?_
    refine V_aload_n (pc := 159) dX0_takes_159 rfl ?_
    refine G_X0_subjects (pc := 160) (by first | rfl | assumption) fl_X0_18 dX0_takes_160 ?_
    refine V_aload_n (pc := 163) dX0_takes_163 rfl ?_
    refine G_X0_grounds (pc := 164) (by first | rfl | assumption) fl_X0_40 dX0_takes_164 ?_
    refine V_iload_n (pc := 167) dX0_takes_167 rfl ?_
    refine V_iconst (pc := 168) 4 dX0_takes_168 (by decide) ?_
    refine V_callV_I (pc := 169) ff_X0_takesFigure ml_X0_57 (by first | rfl | assumption) rfl rfl (c_X0_takesFigure hb b3 (by omega) hwl (by decide)) dX0_takes_169 rfl rfl (by decide) (by decide) (Nat.le_of_ble_eq_true rfl) ?_
    refine V_ifb_eq (pc := 172) 187 dX0_takes_172 (by decide) (fun h_172 => ?_) (fun h_172 => ?_)
    · skip
      rw [if_neg h_172]
      refine V_iconst (pc := 187) 0 dX0_takes_187 (by decide) ?_
      exact hret _ _ _ _ dX0_takes_188 (by first | decide | omega | (split <;> omega)) (by
  first
  | exact tk_f (fun _ _ => rfl) (by rw [st4, if_neg (by omega)])
  | exact tk_t (rxs2 (by decide)) (by rw [st4, if_pos (by omega)]) (RX_4 r) (OKD_4 o (by omega)))
    · skip
      rw [if_pos h_172]
      obtain rfl : w = x - 48 := by omega
      refine V_aload_n (pc := 175) dX0_takes_175 rfl ?_
      refine V_iconst (pc := 176) 5 dX0_takes_176 (by decide) ?_
      refine V_callV_I (pc := 177) ff_X0_goesOn ml_X0_50 (by first | rfl | assumption) rfl rfl (c_X0_goesOn (by assumption)) dX0_takes_177 rfl rfl (by decide) (by decide) (Nat.le_of_ble_eq_true rfl) ?_
      refine V_if_eq (pc := 180) 187 dX0_takes_180 (by decide) (by first | omega | assumption | exact and1_lt _ | exact nb_p) (fun h_180 => absurd h_180 (by omega)) (fun h_180 => ?_)
      refine V_iconst (pc := 183) 1 dX0_takes_183 (by decide) ?_
      refine V_goto (pc := 184) 188 dX0_takes_184 (by decide) ?_
      exact hret _ _ _ _ dX0_takes_188 (by first | decide | omega | (split <;> omega)) (by
  first
  | exact tk_f (fun _ _ => rfl) (by rw [st4, if_neg (by omega)])
  | exact tk_t (rxs2 (by decide)) (by rw [st4, if_pos (by omega)]) (RX_4 r) (OKD_4 o (by omega)))
  by_cases hs_14_5 : d = 5
  · skip
    refine V_tabK (pc := 14) (m := 5) 189 dX0_takes_14 hs_14_5 (by decide) (by decide) rfl (by decide) ?_
    subst hs_14_5
    refine V_aload_n (pc := 189) dX0_takes_189 rfl ?_
    refine V_aload_n (pc := 190) dX0_takes_190 rfl ?_
    refine G_X0_groundKinds (pc := 191) (by first | rfl | assumption) fl_X0_21 dX0_takes_191 ?_
    refine V_aload_n (pc := 194) dX0_takes_194 rfl ?_
    refine G_X0_grounds (pc := 195) (by first | rfl | assumption) fl_X0_40 dX0_takes_195 ?_
    refine V_iload_n (pc := 198) dX0_takes_198 rfl ?_
    refine V_iconst (pc := 199) 3 dX0_takes_199 (by decide) ?_
    refine V_callV_I (pc := 200) ff_X0_takesFigure ml_X0_57 (by first | rfl | assumption) rfl rfl (c_X0_takesFigure hb b4 (by omega) hwl (by decide)) dX0_takes_200 rfl rfl (by decide) (by decide) (Nat.le_of_ble_eq_true rfl) ?_
    refine V_ifb_eq (pc := 203) 217 dX0_takes_203 (by decide) (fun h_203 => ?_) (fun h_203 => ?_)
    · skip
      rw [if_neg h_203]
      refine V_iconst (pc := 217) 0 dX0_takes_217 (by decide) ?_
      exact hret _ _ _ _ dX0_takes_218 (by first | decide | omega | (split <;> omega)) (by
  first
  | exact tk_f (fun _ _ => rfl) (by rw [st5, if_neg (by omega)])
  | exact tk_t (fun k h => by rw [pt_o (by omega), pt_o (by omega), pt_o (by omega), pt_o (by omega)]) (by rw [st5, if_pos (by omega)]) (RX_5 r o) (OKD_5 o (by omega)))
    · skip
      rw [if_pos h_203]
      obtain rfl : w = x - 48 := by omega
      refine V_aload_n (pc := 206) dX0_takes_206 rfl ?_
      refine V_callV_I (pc := 207) ff_X0_endsGround ml_X0_69 (by first | rfl | assumption) rfl rfl (c_X0_endsGround hb (by rw [pt_ne (by omega)]; omega) (by rw [pt_ne (by omega), pt_ne (by omega)]; have := o5 rfl; have := (r5 rfl).1; rw [r8]; omega)) dX0_takes_207 rfl rfl (by decide) (by decide) (Nat.le_of_ble_eq_true rfl) ?_
      rw [pt_ne (show b ≠ b + 4 ∨ 8 ≠ σ b 8 by omega), pt_ne (show b + 2 ≠ b + 4 ∨ σ b 8 ≠ σ b 8 by omega)]
      refine V_if_eq (pc := 210) 217 dX0_takes_210 (by decide) (by first | omega | assumption | exact and1_lt _ | exact nb_p) (fun h_210 => absurd h_210 (by omega)) (fun h_210 => ?_)
      refine V_iconst (pc := 213) 1 dX0_takes_213 (by decide) ?_
      refine V_goto (pc := 214) 218 dX0_takes_214 (by decide) ?_
      exact hret _ _ _ _ dX0_takes_218 (by first | decide | omega | (split <;> omega)) (by
  first
  | exact tk_f (fun _ _ => rfl) (by rw [st5, if_neg (by omega)])
  | exact tk_t (fun k h => by rw [pt_o (by omega), pt_o (by omega), pt_o (by omega), pt_o (by omega)]) (by rw [st5, if_pos (by omega)]) (RX_5 r o) (OKD_5 o (by omega)))
  by_cases hs_14_6 : d = 6
  · skip
    refine V_tabK (pc := 14) (m := 6) 219 dX0_takes_14 hs_14_6 (by decide) (by decide) rfl (by decide) ?_
    subst hs_14_6
    refine V_aload_n (pc := 219) dX0_takes_219 rfl ?_
    refine V_aload_n (pc := 220) dX0_takes_220 rfl ?_
    refine G_X0_childCells (pc := 221) (by first | rfl | assumption) fl_X0_24 dX0_takes_221 ?_
    refine V_aload_n (pc := 224) dX0_takes_224 rfl ?_
    refine G_X0_children (pc := 225) (by first | rfl | assumption) fl_X0_43 dX0_takes_225 ?_
    refine V_iload_n (pc := 228) dX0_takes_228 rfl ?_
    refine V_bipush (pc := 229) 11 dX0_takes_229 (by decide) ?_
    refine V_callV_I (pc := 231) ff_X0_takesFigure ml_X0_57 (by first | rfl | assumption) rfl rfl (c_X0_takesFigure hb b5 (by omega) hcl (by decide)) dX0_takes_231 rfl rfl (by decide) (by decide) (Nat.le_of_ble_eq_true rfl) ?_
    refine V_ifb_eq (pc := 234) 250 dX0_takes_234 (by decide) (fun h_234 => ?_) (fun h_234 => ?_)
    · skip
      rw [if_neg h_234]
      refine V_iconst (pc := 250) 0 dX0_takes_250 (by decide) ?_
      exact hret _ _ _ _ dX0_takes_251 (by first | decide | omega | (split <;> omega)) (by
  first
  | exact tk_f (fun _ _ => rfl) (by rw [st6, if_neg (by omega)])
  | exact tk_t (rxs2 (by decide)) (by rw [st6, if_pos (by omega)]) (RX_6 r) (OKD_6 o (by omega)))
    · skip
      rw [if_pos h_234]
      obtain rfl : c = x - 97 := by omega
      refine V_aload_n (pc := 237) dX0_takes_237 rfl ?_
      refine V_bipush (pc := 238) 7 dX0_takes_238 (by decide) ?_
      refine V_callV_I (pc := 240) ff_X0_goesOn ml_X0_50 (by first | rfl | assumption) rfl rfl (c_X0_goesOn (by assumption)) dX0_takes_240 rfl rfl (by decide) (by decide) (Nat.le_of_ble_eq_true rfl) ?_
      refine V_if_eq (pc := 243) 250 dX0_takes_243 (by decide) (by first | omega | assumption | exact and1_lt _ | exact nb_p) (fun h_243 => absurd h_243 (by omega)) (fun h_243 => ?_)
      refine V_iconst (pc := 246) 1 dX0_takes_246 (by decide) ?_
      refine V_goto (pc := 247) 251 dX0_takes_247 (by decide) ?_
      exact hret _ _ _ _ dX0_takes_251 (by first | decide | omega | (split <;> omega)) (by
  first
  | exact tk_f (fun _ _ => rfl) (by rw [st6, if_neg (by omega)])
  | exact tk_t (rxs2 (by decide)) (by rw [st6, if_pos (by omega)]) (RX_6 r) (OKD_6 o (by omega)))
  by_cases hs_14_7 : d = 7
  · skip
    refine V_tabK (pc := 14) (m := 7) 252 dX0_takes_14 hs_14_7 (by decide) (by decide) rfl (by decide) ?_
    subst hs_14_7
    refine V_aload_n (pc := 252) dX0_takes_252 rfl ?_
    refine V_aload_n (pc := 253) dX0_takes_253 rfl ?_
    refine G_X0_childKinds (pc := 254) (by first | rfl | assumption) fl_X0_27 dX0_takes_254 ?_
    refine V_aload_n (pc := 257) dX0_takes_257 rfl ?_
    refine G_X0_children (pc := 258) (by first | rfl | assumption) fl_X0_43 dX0_takes_258 ?_
    refine V_iload_n (pc := 261) dX0_takes_261 rfl ?_
    refine V_iconst (pc := 262) 3 dX0_takes_262 (by decide) ?_
    refine V_callV_I (pc := 263) ff_X0_takesFigure ml_X0_57 (by first | rfl | assumption) rfl rfl (c_X0_takesFigure hb b6 (by omega) hwl (by decide)) dX0_takes_263 rfl rfl (by decide) (by decide) (Nat.le_of_ble_eq_true rfl) ?_
    refine V_ifb_eq (pc := 266) 280 dX0_takes_266 (by decide) (fun h_266 => ?_) (fun h_266 => ?_)
    · skip
      rw [if_neg h_266]
      refine V_iconst (pc := 280) 0 dX0_takes_280 (by decide) ?_
      exact hret _ _ _ _ dX0_takes_281 (by first | decide | omega | (split <;> omega)) (by
  first
  | exact tk_f (fun _ _ => rfl) (by rw [st7, if_neg (by omega)])
  | exact tk_t (rxs3 (by decide)) (by rw [st7, if_pos (by omega)]) (RX_7 r) (OKD_7 o (by omega)))
    · skip
      rw [if_pos h_266]
      obtain rfl : w = x - 48 := by omega
      refine V_aload_n (pc := 269) dX0_takes_269 rfl ?_
      refine V_callV_I (pc := 270) ff_X0_endsChild ml_X0_72 (by first | rfl | assumption) rfl rfl (c_X0_endsChild hb) dX0_takes_270 rfl rfl (by decide) (by decide) (Nat.le_of_ble_eq_true rfl) ?_
      rw [pt_ne (by omega)]
      refine V_if_eq (pc := 273) 280 dX0_takes_273 (by decide) (by first | omega | assumption | exact and1_lt _ | exact nb_p) (fun h_273 => absurd h_273 (by omega)) (fun h_273 => ?_)
      refine V_iconst (pc := 276) 1 dX0_takes_276 (by decide) ?_
      refine V_goto (pc := 277) 281 dX0_takes_277 (by decide) ?_
      exact hret _ _ _ _ dX0_takes_281 (by first | decide | omega | (split <;> omega)) (by
  first
  | exact tk_f (fun _ _ => rfl) (by rw [st7, if_neg (by omega)])
  | exact tk_t (rxs3 (by decide)) (by rw [st7, if_pos (by omega)]) (RX_7 r) (OKD_7 o (by omega)))
  refine V_tabO (pc := 14) 282 dX0_takes_14 (by first | omega | assumption | exact and1_lt _ | exact nb_p) (by omega) (by decide) (by decide) ?_
  exfalso; omega
def rdX (σ : St) : Nat × St := rs (σ 18) (σ 17 1) 0 0 K00
def SB (b : Nat) (σ u : St) : Prop := ∀ k, (k < b ∨ b + 8 ≤ k) → u k = σ k
def TY (σ : St) : Prop := σ 17 1 ≤ 48 ∧ (∀ i, i < 48 → σ 18 i < 256) ∧ kd (σ 17 2) = (3, 0) ∧ kd (σ 17 3) = (3, 0) ∧ σ 17 2 ≠ σ 17 3
def rtP (σ : St) : Option Value → St → Prop := fun v u => v = some (.int (nI (rdX σ).1)) ∧ SB (σ 17 3) σ u ∧ ((rdX σ).1 = 4294967287 → RX u (σ 17 3) 1 (rdX σ).2 ∧ OKD 1 (rdX σ).2)
theorem RX_cl {σ : St} {b : Nat} : RX (clX σ b 12) b 0 K00 := by
  unfold RX clX K00
  simp
  intro cell h1 h2
  omega
theorem OKD_00 : OKD 0 K00 := ⟨by decide, OKT_0, fun h => by omega, fun h => by omega, fun h => by omega, fun h => by omega, fun h => by omega, fun h => by omega⟩
set_option maxHeartbeats 4000000 in
set_option maxRecDepth 100000 in
theorem c_X4_readText {B : Bk} {σ : St} (ty : TY σ) : MC yX4_readText cX4_readText 2 (some .int) 3 B [.ref (B.1 17)] σ (rtP σ) := by
  obtain ⟨t1, t2, t3, hb, t5⟩ := id ty
  obtain ⟨b1, b2, b3, b4, b5, b6, b7, b8⟩ := kd3' hb
  generalize hdr : σ 17 3 = b at *
  refine MC_int RX4 [some (.ref (B.1 17)), none] 1 (by decide +kernel) rfl rfl (Nat.le_of_ble_eq_true rfl) (fun E Q hret => ?_)
  refine V_aload_n (pc := 0) dX4_readText_0 rfl ?_
  refine G_X4_draft (pc := 1) (by first | rfl | assumption) fl_X4_20 dX4_readText_1 ?_
  rw [hdr]
  refine V_callV_V (pc := 4) ff_X0_clear ml_X4_255 hb rfl rfl (c_X0_clear hb) dX4_readText_4 rfl rfl (by decide) (by decide) (Nat.le_of_ble_eq_true rfl) ?_
  refine V_iconst (pc := 7) 0 dX4_readText_7 (by decide) ?_
  refine V_istore_n (pc := 8) dX4_readText_8 (by decide) rfl ?_
  have L_9 : ∀ (m : Nat) (i d : Nat) (u K : St), σ 17 1 - i = m → i ≤ σ 17 1 → SB b σ u → RX u b d K → OKD d K → rdX σ = rs (σ 18) (σ 17 1 - i) d i K → V E B RX4 cX4_readText 2 3 Q 9 [some (.ref (B.1 17)), some (.int (nI i))] [] (u) := by
    intro m
    induction m using Nat.strongRecOn with
    | _ m ih =>
      intro i d u K hm hi hS r o hR
      have u17 : u 17 = σ 17 := hS 17 (by omega)
      have u18 : u 18 = σ 18 := hS 18 (by omega)
      refine V_iload_n (pc := 9) dX4_readText_9 rfl ?_
      refine V_aload_n (pc := 10) dX4_readText_10 rfl ?_
      refine G_X4_length (pc := 11) (by first | rfl | assumption) fl_X4_63 dX4_readText_11 ?_
      rw [u17]
      refine V_icmp_ge (pc := 14) 43 dX4_readText_14 (by decide) (by first | omega | assumption | exact and1_lt _ | exact nb_p) (by first | omega | assumption | exact and1_lt _ | exact nb_p) (fun h_14 => ?_) (fun h_14 => ?_)
      · skip
        refine V_aload_n (pc := 43) dX4_readText_43 rfl ?_
        refine G_X4_draft (pc := 44) (by first | rfl | assumption) fl_X4_20 dX4_readText_44 ?_
        rw [u17, hdr]
        refine V_callV_I (pc := 47) ff_X0_isWhole ml_X4_259 hb rfl rfl (c_X0_isWhole hb (by have := r.1.2.2.2; have := o.1; omega)) dX4_readText_47 rfl rfl (by decide) (by decide) (Nat.le_of_ble_eq_true rfl) ?_
        refine V_ifb_eq (pc := 50) 58 dX4_readText_50 (by decide) (fun h_50 => ?_) (fun h_50 => ?_)
        · skip
          refine V_aload_n (pc := 58) dX4_readText_58 rfl ?_
          refine G_X4_length (pc := 59) (by first | rfl | assumption) fl_X4_63 dX4_readText_59 ?_
          exact hret _ _ _ _ dX4_readText_62 ⟨by rw [hR, show σ 17 1 - i = 0 by omega]; unfold rs; have h10 := r.1.2.2.2; first | rw [if_pos (by omega)] | (rw [if_neg (by omega), u17, show i = σ 17 1 by omega]), by rw [hdr]; exact hS, fun q => by rw [hR, show σ 17 1 - i = 0 by omega] at q ⊢; unfold rs at q ⊢; have h10 := r.1.2.2.2; have hd1 : d = 1 := (by by_cases z : d = 1; exact z; rw [if_neg z] at q; exact absurd q (show i ≠ _ by omega)); subst hd1; exact ⟨by rw [hdr]; exact r, o⟩⟩
        · skip
          refine V_bipush (pc := 53) 4294967287 dX4_readText_53 (by decide) ?_
          refine V_goto (pc := 55) 62 dX4_readText_55 (by decide) ?_
          exact hret _ _ _ _ dX4_readText_62 ⟨by rw [hR, show σ 17 1 - i = 0 by omega]; unfold rs; have h10 := r.1.2.2.2; first | rw [if_pos (by omega)] | (rw [if_neg (by omega), u17, show i = σ 17 1 by omega]), by rw [hdr]; exact hS, fun q => by rw [hR, show σ 17 1 - i = 0 by omega] at q ⊢; unfold rs at q ⊢; have h10 := r.1.2.2.2; have hd1 : d = 1 := (by by_cases z : d = 1; exact z; rw [if_neg z] at q; exact absurd q (show i ≠ _ by omega)); subst hd1; exact ⟨by rw [hdr]; exact r, o⟩⟩
      · skip
        refine V_aload_n (pc := 17) dX4_readText_17 rfl ?_
        refine G_X4_draft (pc := 18) (by first | rfl | assumption) fl_X4_20 dX4_readText_18 ?_
        rw [u17, hdr]
        refine V_aload_n (pc := 21) dX4_readText_21 rfl ?_
        refine G_X4_letters (pc := 22) (by first | rfl | assumption) fl_X4_9 dX4_readText_22 ?_
        refine V_iload_n (pc := 25) dX4_readText_25 rfl ?_
        refine V_callS_I (pc := 26) ff_X4_at ml_X4_101 (c_X4_atI (n := 48) rfl (by omega)) dX4_readText_26 rfl rfl (by decide) (by decide) (Nat.le_of_ble_eq_true rfl) ?_
        rw [u18]
        refine V_callV (pc := 29) ff_X0_takes ml_X4_256 hb rfl rfl (c_X0_takes hb r o (t2 i (by omega))) dX4_readText_29 rfl rfl (by decide) (by decide) (Nat.le_of_ble_eq_true rfl) (fun v u hu => ?_)
        obtain ⟨hs, ⟨d2, K2, e1, rfl, e3, e4⟩ | ⟨e1, rfl⟩⟩ := hu
        all_goals simp only [Option.toList, List.cons_append, List.nil_append]
        · skip
          refine V_if_ne (pc := 32) 37 dX4_readText_32 (by decide) (by first | omega | assumption | exact and1_lt _ | exact nb_p) (fun h_32 => ?_) (fun h_32 => absurd h_32 (by omega))
          refine V_iinc (pc := 37) 1 dX4_readText_37 (by decide) rfl (by decide) rfl ?_
          refine V_goto (pc := 40) 9 dX4_readText_40 (by decide) ?_
          exact ih _ (by omega) (i + 1) d2 _ K2 rfl (by omega) (fun k h => (hs k h).trans (hS k h)) e3 e4 (by rw [hR, show σ 17 1 - i = (σ 17 1 - (i + 1)) + 1 by omega, rs_some e1])
        refine V_if_ne (pc := 32) 37 dX4_readText_32 (by decide) (by first | omega | assumption | exact and1_lt _ | exact nb_p) (fun h_32 => absurd h_32 (by omega)) (fun h_32 => ?_)
        refine V_iload_n (pc := 35) dX4_readText_35 rfl ?_
        exact hret _ _ _ _ dX4_readText_36 ⟨by rw [hR, show σ 17 1 - i = (σ 17 1 - (i + 1)) + 1 by omega, rs_none e1], by rw [hdr]; exact fun k h => (hs k h).trans (hS k h), fun q => by rw [hR, show σ 17 1 - i = (σ 17 1 - (i + 1)) + 1 by omega, rs_none e1] at q; exact absurd q (show i ≠ _ by omega)⟩
  exact L_9 _ 0 0 _ K00 rfl (by omega) (fun k h => by unfold clX; funext j; rw [if_neg (by omega), if_neg (by omega)]) RX_cl OKD_00 rfl
