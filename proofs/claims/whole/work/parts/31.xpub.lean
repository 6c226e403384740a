/-! the class's calls: answer, store -/
def GX (σ : St) : Prop := OKX σ (σ 17 2) ∧ OKP (pX σ 45) ∧ pX σ 45 31 ≤ 2 ^ 20
theorem KX_same {σ u : St} {b : Nat} (he : ∀ k, b ≤ k → k < b + 8 → u k = σ k) : KX u b = KX σ b := by
  funext r i
  unfold KX
  rw [he b (by omega) (by omega)]
  by_cases h : r ≤ 4
  · rw [he (b + r) (by omega) (by omega), he (b + 6) (by omega) (by omega), he (b + 5) (by omega) (by omega)]
  · rw [if_neg h, if_neg h, he (b + 6) (by omega) (by omega), he (b + 5) (by omega) (by omega)]
theorem pX_same {σ u : St} {k : Nat} (h0 : u k = σ k) (h1 : u (k + 1) = σ (k + 1)) (h2 : u (k + 2) = σ (k + 2)) : pX u k = pX σ k := by
  funext i
  unfold pX
  rw [h0, h1, h2]
theorem rmX_o {σ : St} {j k : Nat} (h : k ≠ 23) (h2 : k < 60) : rmX σ j k = σ k := by
  unfold rmX
  rw [pt_o h, pt_o h, stX_o (by omega) (by omega) (by omega)]
def wrX (σ : St) (x : Nat) : Nat × St := if x ≤ 255 then (if σ 17 1 = 48 then (4294967292, σ) else (σ 17 1 + 1, pt (pt σ 18 (σ 17 1) x) 17 1 (σ 17 1 + 1))) else (4294967294, σ)
def wiX (σ : St) : Nat × St := (σ 17 1, pt σ 17 1 0)
def foX (σ : St) : Nat × St := (σ 25 3, pt σ 25 3 0)
def grX (σ : St) (g w : Nat) : Nat := if g < σ (σ 17 2) 8 then (if w = 0 then σ (σ 17 2 + 2) g else if w = 1 then σ (σ 17 2 + 3) g else if w = 2 then σ (σ 17 2 + 4) g else if w = 3 then chA (pX σ 45) (σ (σ 17 2 + 2) g) (σ (σ 17 2) 9) else 4294967294) else 4294967295
def chX (σ : St) (c w : Nat) : Nat := if c < σ (σ 17 2) 9 then (if w = 0 then σ (45 + 1) c else if w = 1 then σ (σ 17 2 + 6) c else if w = 2 then (if (σ 45 2).testBit c = true then 1 else 0) else if w = 3 then wtF (pX σ 45) c 5 else if w = 4 then gIn σ (σ 17 2) (σ (45 + 1) c) else 4294967294) else 4294967295
def knX (σ : St) (c s : Nat) : Nat := if c < σ (σ 17 2) 9 ∧ s < 5 then σ (45 + 2) (c * 5 + s) else 4294967295
def dyX (σ : St) : Nat × St := (wtS (pd (KX σ (σ 17 2)) 63 (pX σ 45)) 5, stX (rmX σ 45) 45 (pd (KX σ (σ 17 2)) 63 (pX σ 45)))
def seX (σ : St) (c x : Nat) : Nat × St := if c < σ (σ 17 2) 9 ∧ x < 12 then (if σ (45 + 1) c = x then (4294967293, σ) else (σ (45 + 1) c, pt (rmX σ 45) (45 + 1) c x)) else (4294967295, σ)
def moX (σ : St) (c : Nat) : Nat × St := if c < σ (σ 17 2) 9 then (if (σ 45 2 ^^^ 1 * 2 ^ c).testBit c = true then 1 else 0, pt (rmX σ 45) 45 2 (σ 45 2 ^^^ 1 * 2 ^ c)) else (4294967295, σ)
def puX (σ : St) (c : Nat) : Nat × St := if c < σ (σ 17 2) 9 then (if wtF (pX σ 45) c 5 = 0 then (4294967293, σ) else (wtF (pX σ 45) c 5, stX (rmX σ 45) 45 (unl (pX σ 45) c 5))) else (4294967295, σ)
def unX (σ : St) : Nat × St := if σ 23 2 = 0 then (4294967293, σ) else (σ 23 2 - 1, tbX σ 45)
def kwX (σ : St) (s n v : Nat) : Nat × St := if s < 5 then (if n ≤ 9 ∧ v ≤ 9 then (if σ 25 3 = 6 then (4294967292, σ) else (σ 25 3 + 1, pt (pt (pt (pt σ 26 (σ 25 3) s) 27 (σ 25 3) n) 28 (σ 25 3) v) 25 3 (σ 25 3 + 1))) else (4294967294, σ)) else (4294967295, σ)
def keX (σ : St) (s : Nat) : Nat × St := if s ≤ 1 then (σ 45 3, pt (stX σ (54 + 3 * s) (pX σ 45)) 17 9 (σ 17 9 ||| 1 * 2 ^ s)) else (4294967295, σ)
def agX (σ : St) (s : Nat) : Nat × St := if s ≤ 1 then (if (σ 17 9).testBit s = true then (σ (54 + 3 * s) 3, pt (stX σ 45 (pX σ (54 + 3 * s))) 23 2 0) else (4294967293, σ)) else (4294967295, σ)
def cnX (σ : St) (w : Nat) : Nat := if w = 0 then σ 17 1 else if w = 1 then σ (σ 17 2) 7 else if w = 2 then σ (σ 17 2) 8 else if w = 3 then σ (σ 17 2) 9 else if w = 4 then σ 45 3 else if w = 5 then cbF (σ (σ 17 2 + 2)) (σ (σ 17 2) 8) else if w = 6 then cbF (σ (45 + 1)) (σ (σ 17 2) 9) else if w = 7 then σ 45 2 else if w = 8 then wtS (pX σ 45) 5 else if w = 9 then wyO (KX σ (σ 17 2)) (σ 45 3) else if w = 10 then σ 23 2 else if w = 11 then σ 25 3 else 4294967294
set_option maxHeartbeats 4000000 in
set_option maxRecDepth 100000 in
theorem c_X4_write {B : Bk} {σ : St} {x : Nat} (hx : x < 2 ^ 32) (hl : σ 17 1 ≤ 48) : MC yX4_write cX4_write 2 (some .int) 1 B [.ref (B.1 17), .int (nI x)] σ (dP (wrX σ x)) := by
  refine MC_int RX4 [some (.ref (B.1 17)), some (.int (nI x))] 0 (by decide +kernel) rfl rfl (Nat.le_of_ble_eq_true rfl) (fun E Q hret => ?_)
  refine V_iload_n (pc := 0) dX4_write_0 rfl ?_
  refine V_if_lt (pc := 1) 11 dX4_write_1 (by decide) (by first | omega | assumption | exact and1_lt _ | exact nb_p) (fun h_1 => ?_) (fun h_1 => ?_)
  · skip
    refine V_bipush (pc := 11) 4294967294 dX4_write_11 (by decide) ?_
    exact hret _ _ _ _ dX4_write_13 (by unfold wrX; (repeat' split) <;> first | (exfalso; omega) | exact ⟨rfl, rfl⟩)
  · skip
    refine V_iload_n (pc := 4) dX4_write_4 rfl ?_
    refine V_sipush (pc := 5) 255 dX4_write_5 (by decide) ?_
    refine V_icmp_le (pc := 8) 14 dX4_write_8 (by decide) (by first | omega | assumption | exact and1_lt _ | exact nb_p) (by first | omega | assumption | exact and1_lt _ | exact nb_p) (fun h_8 => ?_) (fun h_8 => ?_)
    · skip
      refine V_aload_n (pc := 14) dX4_write_14 rfl ?_
      refine G_X4_length (pc := 15) (by first | rfl | assumption) fl_X4_63 dX4_write_15 ?_
      refine V_bipush (pc := 18) 48 dX4_write_18 (by decide) ?_
      refine V_icmp_lt (pc := 20) 26 dX4_write_20 (by decide) (by first | omega | assumption | exact and1_lt _ | exact nb_p) (by first | omega | assumption | exact and1_lt _ | exact nb_p) (fun h_20 => ?_) (fun h_20 => ?_)
      · skip
        refine V_aload_n (pc := 26) dX4_write_26 rfl ?_
        refine G_X4_letters (pc := 27) (by first | rfl | assumption) fl_X4_9 dX4_write_27 ?_
        refine V_aload_n (pc := 30) dX4_write_30 rfl ?_
        refine G_X4_length (pc := 31) (by first | rfl | assumption) fl_X4_63 dX4_write_31 ?_
        refine V_iload_n (pc := 34) dX4_write_34 rfl ?_
        refine V_callS_V (pc := 35) ff_X4_lay ml_X4_67 (c_X4_layI (n := 48) rfl (by omega)) dX4_write_35 rfl rfl (by decide) (by decide) (Nat.le_of_ble_eq_true rfl) ?_
        refine V_aload_n (pc := 38) dX4_write_38 rfl ?_
        refine V_dup (pc := 39) dX4_write_39 rfl ?_
        refine G_X4_length (pc := 40) (by first | rfl | assumption) fl_X4_63 dX4_write_40 ?_
        rw [pt_ne (by omega)]
        refine V_iconst (pc := 43) 1 dX4_write_43 (by decide) ?_
        refine V_iadd (pc := 44) dX4_write_44 ?_
        refine P_X4_length (pc := 45) (by first | rfl | assumption) fl_X4_63 dX4_write_45 ?_
        refine V_aload_n (pc := 48) dX4_write_48 rfl ?_
        refine G_X4_length (pc := 49) (by first | rfl | assumption) fl_X4_63 dX4_write_49 ?_
        rw [pt_at]
        exact hret _ _ _ _ dX4_write_52 (by unfold wrX; (repeat' split) <;> first | (exfalso; omega) | exact ⟨rfl, rfl⟩)
      · skip
        refine V_bipush (pc := 23) 4294967292 dX4_write_23 (by decide) ?_
        exact hret _ _ _ _ dX4_write_25 (by unfold wrX; (repeat' split) <;> first | (exfalso; omega) | exact ⟨rfl, rfl⟩)
    · skip
      refine V_bipush (pc := 11) 4294967294 dX4_write_11 (by decide) ?_
      exact hret _ _ _ _ dX4_write_13 (by unfold wrX; (repeat' split) <;> first | (exfalso; omega) | exact ⟨rfl, rfl⟩)
set_option maxHeartbeats 4000000 in
set_option maxRecDepth 100000 in
theorem c_X4_wipe {B : Bk} {σ : St} : MC yX4_wipe cX4_wipe 2 (some .int) 0 B [.ref (B.1 17)] σ (dP (wiX σ)) := by
  refine MC_int RX4 [some (.ref (B.1 17)), none] 1 (by decide +kernel) rfl rfl (Nat.le_of_ble_eq_true rfl) (fun E Q hret => ?_)
  refine V_aload_n (pc := 0) dX4_wipe_0 rfl ?_
  refine G_X4_length (pc := 1) (by first | rfl | assumption) fl_X4_63 dX4_wipe_1 ?_
  refine V_istore_n (pc := 4) dX4_wipe_4 (by decide) rfl ?_
  refine V_aload_n (pc := 5) dX4_wipe_5 rfl ?_
  refine V_iconst (pc := 6) 0 dX4_wipe_6 (by decide) ?_
  refine P_X4_length (pc := 7) (by first | rfl | assumption) fl_X4_63 dX4_wipe_7 ?_
  refine V_iload_n (pc := 10) dX4_wipe_10 rfl ?_
  exact hret _ _ _ _ dX4_wipe_11 ⟨rfl, rfl⟩
set_option maxHeartbeats 4000000 in
set_option maxRecDepth 100000 in
theorem c_X4_forget {B : Bk} {σ : St} : MC yX4_forget cX4_forget 2 (some .int) 0 B [.ref (B.1 17)] σ (dP (foX σ)) := by
  refine MC_int RX4 [some (.ref (B.1 17)), none] 1 (by decide +kernel) rfl rfl (Nat.le_of_ble_eq_true rfl) (fun E Q hret => ?_)
  refine V_aload_n (pc := 0) dX4_forget_0 rfl ?_
  refine G_X4_memories (pc := 1) (by first | rfl | assumption) fl_X4_50 dX4_forget_1 ?_
  refine G_X1_size (pc := 4) (by first | rfl | assumption) fl_X4_190 dX4_forget_4 ?_
  refine V_istore_n (pc := 7) dX4_forget_7 (by decide) rfl ?_
  refine V_aload_n (pc := 8) dX4_forget_8 rfl ?_
  refine G_X4_memories (pc := 9) (by first | rfl | assumption) fl_X4_50 dX4_forget_9 ?_
  refine V_iconst (pc := 12) 0 dX4_forget_12 (by decide) ?_
  refine P_X1_size (pc := 13) (by first | rfl | assumption) fl_X4_190 dX4_forget_13 ?_
  refine V_iload_n (pc := 16) dX4_forget_16 rfl ?_
  exact hret _ _ _ _ dX4_forget_17 ⟨rfl, rfl⟩
set_option maxHeartbeats 4000000 in
set_option maxRecDepth 100000 in
theorem c_X4_seed {B : Bk} {σ : St} {v : Nat} : MC yX4_seed cX4_seed 5 (some .long) 0 B [.ref (B.1 17), .long (lN v)] σ (dJ (lN (σ 17 11)) (pt σ 17 11 v)) := by
  refine MC_long RX4 [some (.ref (B.1 17)), some (.long (lN v)), none, none, none] 2 (by decide +kernel) rfl rfl (Nat.le_of_ble_eq_true rfl) (fun E Q hret => ?_)
  refine V_aload_n (pc := 0) dX4_seed_0 rfl ?_
  refine G_X4_seedNow (pc := 1) (by first | rfl | assumption) fl_X4_228 dX4_seed_1 ?_
  refine V_lstore_n (pc := 4) dX4_seed_4 (by decide) rfl ?_
  refine V_aload_n (pc := 5) dX4_seed_5 rfl ?_
  refine V_lload_n (pc := 6) dX4_seed_6 rfl ?_
  refine P_X4_seedNow (pc := 7) (by first | rfl | assumption) fl_X4_228 dX4_seed_7 ?_
  refine V_lload_n (pc := 10) dX4_seed_10 rfl ?_
  exact hret _ _ _ _ dX4_seed_11 ⟨rfl, rfl⟩
set_option maxHeartbeats 4000000 in
set_option maxRecDepth 100000 in
theorem c_X4_fault {B : Bk} {σ : St} (ty : TY σ) : MC yX4_fault cX4_fault 1 (some .int) 4 B [.ref (B.1 17)] σ (rI (rdX σ).1 (SB (σ 17 3) σ)) := by
  refine MC_int RX4 [some (.ref (B.1 17))] 0 (by decide +kernel) rfl rfl (Nat.le_of_ble_eq_true rfl) (fun E Q hret => ?_)
  refine V_aload_n (pc := 0) dX4_fault_0 rfl ?_
  refine V_callV (pc := 1) ff_X4_readText ml_X4_71 (by first | rfl | assumption) rfl rfl (c_X4_readText ty) dX4_fault_1 rfl rfl (by decide) (by decide) (Nat.le_of_ble_eq_true rfl) (fun v u hu => ?_)
  obtain ⟨rfl, hA, -⟩ := hu
  simp only [Option.toList, List.cons_append, List.nil_append]
  exact hret _ _ _ _ dX4_fault_4 ⟨rfl, hA⟩
set_option maxHeartbeats 4000000 in
set_option maxRecDepth 100000 in
theorem c_X4_ground {B : Bk} {σ : St} {q w : Nat} (hq : q < 2 ^ 32) (hw : w < 2 ^ 32) (g : GX σ) : MC yX4_ground cX4_ground 3 (some .int) 2 B [.ref (B.1 17), .int (nI q), .int (nI w)] σ (dI (grX σ q w) σ) := by
  obtain ⟨hx, hp, hd⟩ := id g
  have hb := hx.1
  obtain ⟨b1, b2, b3, b4, b5, b6, b7, b8⟩ := kd3' hb
  obtain ⟨o0, o1, o2, o3, o4, o5⟩ := id hx.2.1.1
  have n7 : σ (σ 17 2) 7 ≤ 4 := o0
  have n8 : σ (σ 17 2) 8 ≤ 6 := o1
  have n9 : σ (σ 17 2) 9 ≤ 5 := o2
  have hc5 : ∀ i, i < 5 → σ (45 + 1) i < 12 := fun i h => by have := hp.1 i h; rw [pX_c h] at this; exact this
  have hm5 : σ 45 2 < 32 := hp.2.1
  have hd3 : σ 45 3 ≤ 2 ^ 20 := hd
  have hgc : ∀ i, i < σ (σ 17 2) 8 → σ (σ 17 2 + 2) i < 12 := fun i h => (o4 i h).1
  refine MC_int RX4 [some (.ref (B.1 17)), some (.int (nI q)), some (.int (nI w))] 0 (by decide +kernel) rfl rfl (Nat.le_of_ble_eq_true rfl) (fun E Q hret => ?_)
  refine V_aload_n (pc := 0) dX4_ground_0 rfl ?_
  refine V_iload_n (pc := 1) dX4_ground_1 rfl ?_
  refine V_callV_I (pc := 2) ff_X4_isGround ml_X4_94 (by first | rfl | assumption) rfl rfl (c_X4_isGround (by assumption) (by first | omega | assumption | exact and1_lt _ | exact nb_p) (by omega)) dX4_ground_2 rfl rfl (by decide) (by decide) (Nat.le_of_ble_eq_true rfl) ?_
  refine V_ifb_ne (pc := 5) 10 dX4_ground_5 (by decide) (fun h_5 => ?_) (fun h_5 => ?_)
  · skip
    refine V_iload_n (pc := 10) dX4_ground_10 rfl ?_
    by_cases hs_11_0 : w = 0
    · skip
      refine V_tabK (pc := 11) (m := 0) 40 dX4_ground_11 hs_11_0 (by decide) (by decide) rfl (by decide) ?_
      refine V_aload_n (pc := 40) dX4_ground_40 rfl ?_
      refine G_X4_shore (pc := 41) (by first | rfl | assumption) fl_X4_16 dX4_ground_41 ?_
      refine G_X0_groundCells (pc := 44) (by first | rfl | assumption) fl_X4_98 dX4_ground_44 ?_
      refine V_iload_n (pc := 47) dX4_ground_47 rfl ?_
      refine V_callS_I (pc := 48) ff_X4_at ml_X4_101 (c_X4_atI b2 (by omega)) dX4_ground_48 rfl rfl (by decide) (by decide) (Nat.le_of_ble_eq_true rfl) ?_
      exact hret _ _ _ _ dX4_ground_51 (by unfold grX; (repeat' split) <;> first | (exfalso; omega) | exact ⟨rfl, rfl⟩)
    by_cases hs_11_1 : w = 1
    · skip
      refine V_tabK (pc := 11) (m := 1) 52 dX4_ground_11 hs_11_1 (by decide) (by decide) rfl (by decide) ?_
      refine V_aload_n (pc := 52) dX4_ground_52 rfl ?_
      refine G_X4_shore (pc := 53) (by first | rfl | assumption) fl_X4_16 dX4_ground_53 ?_
      refine G_X0_subjects (pc := 56) (by first | rfl | assumption) fl_X4_105 dX4_ground_56 ?_
      refine V_iload_n (pc := 59) dX4_ground_59 rfl ?_
      refine V_callS_I (pc := 60) ff_X4_at ml_X4_101 (c_X4_atI b3 (by omega)) dX4_ground_60 rfl rfl (by decide) (by decide) (Nat.le_of_ble_eq_true rfl) ?_
      exact hret _ _ _ _ dX4_ground_63 (by unfold grX; (repeat' split) <;> first | (exfalso; omega) | exact ⟨rfl, rfl⟩)
    by_cases hs_11_2 : w = 2
    · skip
      refine V_tabK (pc := 11) (m := 2) 64 dX4_ground_11 hs_11_2 (by decide) (by decide) rfl (by decide) ?_
      refine V_aload_n (pc := 64) dX4_ground_64 rfl ?_
      refine G_X4_shore (pc := 65) (by first | rfl | assumption) fl_X4_16 dX4_ground_65 ?_
      refine G_X0_groundKinds (pc := 68) (by first | rfl | assumption) fl_X4_108 dX4_ground_68 ?_
      refine V_iload_n (pc := 71) dX4_ground_71 rfl ?_
      refine V_callS_I (pc := 72) ff_X4_at ml_X4_101 (c_X4_atI b4 (by omega)) dX4_ground_72 rfl rfl (by decide) (by decide) (Nat.le_of_ble_eq_true rfl) ?_
      exact hret _ _ _ _ dX4_ground_75 (by unfold grX; (repeat' split) <;> first | (exfalso; omega) | exact ⟨rfl, rfl⟩)
    by_cases hs_11_3 : w = 3
    · skip
      refine V_tabK (pc := 11) (m := 3) 76 dX4_ground_11 hs_11_3 (by decide) (by decide) rfl (by decide) ?_
      refine V_aload_n (pc := 76) dX4_ground_76 rfl ?_
      refine G_X4_now (pc := 77) (by first | rfl | assumption) fl_X4_26 dX4_ground_77 ?_
      refine V_aload_n (pc := 80) dX4_ground_80 rfl ?_
      refine G_X4_shore (pc := 81) (by first | rfl | assumption) fl_X4_16 dX4_ground_81 ?_
      refine G_X0_groundCells (pc := 84) (by first | rfl | assumption) fl_X4_98 dX4_ground_84 ?_
      refine V_iload_n (pc := 87) dX4_ground_87 rfl ?_
      refine V_callS_I (pc := 88) ff_X4_at ml_X4_101 (c_X4_atI b2 (by omega)) dX4_ground_88 rfl rfl (by decide) (by decide) (Nat.le_of_ble_eq_true rfl) ?_
      refine V_aload_n (pc := 91) dX4_ground_91 rfl ?_
      refine G_X4_shore (pc := 92) (by first | rfl | assumption) fl_X4_16 dX4_ground_92 ?_
      refine G_X0_children (pc := 95) (by first | rfl | assumption) fl_X4_91 dX4_ground_95 ?_
      refine V_callV_I (pc := 98) ff_X3_childrenIn ml_X4_111 (by first | rfl | assumption) rfl rfl (c_X3_childrenIn (k := 45) rfl (by omega) (by have := hgc q h_5; omega) hc5) dX4_ground_98 rfl rfl (by decide) (by decide) (Nat.le_of_ble_eq_true rfl) ?_
      exact hret _ _ _ _ dX4_ground_101 (by unfold grX; (repeat' split) <;> first | (exfalso; omega) | exact ⟨rfl, rfl⟩)
    refine V_tabO (pc := 11) 102 dX4_ground_11 (by first | omega | assumption | exact and1_lt _ | exact nb_p) (by omega) (by decide) (by decide) ?_
    refine V_bipush (pc := 102) 4294967294 dX4_ground_102 (by decide) ?_
    exact hret _ _ _ _ dX4_ground_104 (by unfold grX; (repeat' split) <;> first | (exfalso; omega) | exact ⟨rfl, rfl⟩)
  · skip
    refine V_iconst (pc := 8) 4294967295 dX4_ground_8 (by decide) ?_
    exact hret _ _ _ _ dX4_ground_9 (by unfold grX; (repeat' split) <;> first | (exfalso; omega) | exact ⟨rfl, rfl⟩)
set_option maxHeartbeats 4000000 in
set_option maxRecDepth 100000 in
theorem c_X4_child {B : Bk} {σ : St} {c w : Nat} (hc : c < 2 ^ 32) (hw : w < 2 ^ 32) (g : GX σ) : MC yX4_child cX4_child 3 (some .int) 3 B [.ref (B.1 17), .int (nI c), .int (nI w)] σ (dI (chX σ c w) σ) := by
  obtain ⟨hx, hp, hd⟩ := id g
  have hb := hx.1
  obtain ⟨b1, b2, b3, b4, b5, b6, b7, b8⟩ := kd3' hb
  obtain ⟨o0, o1, o2, o3, o4, o5⟩ := id hx.2.1.1
  have n7 : σ (σ 17 2) 7 ≤ 4 := o0
  have n8 : σ (σ 17 2) 8 ≤ 6 := o1
  have n9 : σ (σ 17 2) 9 ≤ 5 := o2
  have hc5 : ∀ i, i < 5 → σ (45 + 1) i < 12 := fun i h => by have := hp.1 i h; rw [pX_c h] at this; exact this
  have hm5 : σ 45 2 < 32 := hp.2.1
  have hd3 : σ 45 3 ≤ 2 ^ 20 := hd
  have hgc : ∀ i, i < σ (σ 17 2) 8 → σ (σ 17 2 + 2) i < 12 := fun i h => (o4 i h).1
  refine MC_int RX4 [some (.ref (B.1 17)), some (.int (nI c)), some (.int (nI w))] 0 (by decide +kernel) rfl rfl (Nat.le_of_ble_eq_true rfl) (fun E Q hret => ?_)
  refine V_aload_n (pc := 0) dX4_child_0 rfl ?_
  refine V_iload_n (pc := 1) dX4_child_1 rfl ?_
  refine V_callV_I (pc := 2) ff_X4_isChild ml_X4_115 (by first | rfl | assumption) rfl rfl (c_X4_isChild (by assumption) (by first | omega | assumption | exact and1_lt _ | exact nb_p) (by omega)) dX4_child_2 rfl rfl (by decide) (by decide) (Nat.le_of_ble_eq_true rfl) ?_
  refine V_ifb_ne (pc := 5) 10 dX4_child_5 (by decide) (fun h_5 => ?_) (fun h_5 => ?_)
  · skip
    refine V_iload_n (pc := 10) dX4_child_10 rfl ?_
    by_cases hs_11_0 : w = 0
    · skip
      refine V_tabK (pc := 11) (m := 0) 44 dX4_child_11 hs_11_0 (by decide) (by decide) rfl (by decide) ?_
      refine V_aload_n (pc := 44) dX4_child_44 rfl ?_
      refine G_X4_now (pc := 45) (by first | rfl | assumption) fl_X4_26 dX4_child_45 ?_
      refine G_X3_cells (pc := 48) (by first | rfl | assumption) fl_X4_118 dX4_child_48 ?_
      refine V_iload_n (pc := 51) dX4_child_51 rfl ?_
      refine V_callS_I (pc := 52) ff_X4_at ml_X4_101 (c_X4_atI (n := 5) rfl (by omega)) dX4_child_52 rfl rfl (by decide) (by decide) (Nat.le_of_ble_eq_true rfl) ?_
      exact hret _ _ _ _ dX4_child_55 (by unfold chX; (repeat' split) <;> first | (exfalso; omega) | exact ⟨rfl, rfl⟩ | (exfalso; apply h_76; assumption) | (exfalso; rename_i q; exact q h_76))
    by_cases hs_11_1 : w = 1
    · skip
      refine V_tabK (pc := 11) (m := 1) 56 dX4_child_11 hs_11_1 (by decide) (by decide) rfl (by decide) ?_
      refine V_aload_n (pc := 56) dX4_child_56 rfl ?_
      refine G_X4_shore (pc := 57) (by first | rfl | assumption) fl_X4_16 dX4_child_57 ?_
      refine G_X0_childKinds (pc := 60) (by first | rfl | assumption) fl_X4_121 dX4_child_60 ?_
      refine V_iload_n (pc := 63) dX4_child_63 rfl ?_
      refine V_callS_I (pc := 64) ff_X4_at ml_X4_101 (c_X4_atI b6 (by omega)) dX4_child_64 rfl rfl (by decide) (by decide) (Nat.le_of_ble_eq_true rfl) ?_
      exact hret _ _ _ _ dX4_child_67 (by unfold chX; (repeat' split) <;> first | (exfalso; omega) | exact ⟨rfl, rfl⟩ | (exfalso; apply h_76; assumption) | (exfalso; rename_i q; exact q h_76))
    by_cases hs_11_2 : w = 2
    · skip
      refine V_tabK (pc := 11) (m := 2) 68 dX4_child_11 hs_11_2 (by decide) (by decide) rfl (by decide) ?_
      refine V_aload_n (pc := 68) dX4_child_68 rfl ?_
      refine G_X4_now (pc := 69) (by first | rfl | assumption) fl_X4_26 dX4_child_69 ?_
      refine V_iload_n (pc := 72) dX4_child_72 rfl ?_
      refine V_callV_I (pc := 73) ff_X3_isMoored ml_X4_124 (by first | rfl | assumption) rfl rfl (c_X3_isMoored (k := 45) rfl (by omega) (by omega)) dX4_child_73 rfl rfl (by decide) (by decide) (Nat.le_of_ble_eq_true rfl) ?_
      refine V_ifb_eq (pc := 76) 83 dX4_child_76 (by decide) (fun h_76 => ?_) (fun h_76 => ?_)
      · skip
        refine V_iconst (pc := 83) 0 dX4_child_83 (by decide) ?_
        exact hret _ _ _ _ dX4_child_84 (by unfold chX; (repeat' split) <;> first | (exfalso; omega) | exact ⟨rfl, rfl⟩ | (exfalso; apply h_76; assumption) | (exfalso; rename_i q; exact q h_76))
      · skip
        refine V_iconst (pc := 79) 1 dX4_child_79 (by decide) ?_
        refine V_goto (pc := 80) 84 dX4_child_80 (by decide) ?_
        exact hret _ _ _ _ dX4_child_84 (by unfold chX; (repeat' split) <;> first | (exfalso; omega) | exact ⟨rfl, rfl⟩ | (exfalso; apply h_76; assumption) | (exfalso; rename_i q; exact q h_76))
    by_cases hs_11_3 : w = 3
    · skip
      refine V_tabK (pc := 11) (m := 3) 85 dX4_child_11 hs_11_3 (by decide) (by decide) rfl (by decide) ?_
      refine V_aload_n (pc := 85) dX4_child_85 rfl ?_
      refine G_X4_now (pc := 86) (by first | rfl | assumption) fl_X4_26 dX4_child_86 ?_
      refine V_iload_n (pc := 89) dX4_child_89 rfl ?_
      refine V_callV_I (pc := 90) ff_X3_weight ml_X4_127 (by first | rfl | assumption) rfl rfl (c_X3_weight (k := 45) rfl (by omega)) dX4_child_90 rfl rfl (by decide) (by decide) (Nat.le_of_ble_eq_true rfl) ?_
      exact hret _ _ _ _ dX4_child_93 (by unfold chX; (repeat' split) <;> first | (exfalso; omega) | exact ⟨rfl, rfl⟩ | (exfalso; apply h_76; assumption) | (exfalso; rename_i q; exact q h_76))
    by_cases hs_11_4 : w = 4
    · skip
      refine V_tabK (pc := 11) (m := 4) 94 dX4_child_11 hs_11_4 (by decide) (by decide) rfl (by decide) ?_
      refine V_aload_n (pc := 94) dX4_child_94 rfl ?_
      refine G_X4_shore (pc := 95) (by first | rfl | assumption) fl_X4_16 dX4_child_95 ?_
      refine V_aload_n (pc := 98) dX4_child_98 rfl ?_
      refine G_X4_now (pc := 99) (by first | rfl | assumption) fl_X4_26 dX4_child_99 ?_
      refine G_X3_cells (pc := 102) (by first | rfl | assumption) fl_X4_118 dX4_child_102 ?_
      refine V_iload_n (pc := 105) dX4_child_105 rfl ?_
      refine V_callS_I (pc := 106) ff_X4_at ml_X4_101 (c_X4_atI (n := 5) rfl (by omega)) dX4_child_106 rfl rfl (by decide) (by decide) (Nat.le_of_ble_eq_true rfl) ?_
      refine V_callV_I (pc := 109) ff_X0_groundIn ml_X4_131 hb rfl rfl (c_X0_groundIn hb (by have := hc5 c (by omega); omega) (by7 hx)) dX4_child_109 rfl rfl (by decide) (by decide) (Nat.le_of_ble_eq_true rfl) ?_
      exact hret _ _ _ _ dX4_child_112 (by unfold chX; (repeat' split) <;> first | (exfalso; omega) | exact ⟨rfl, rfl⟩ | (exfalso; apply h_76; assumption) | (exfalso; rename_i q; exact q h_76))
    refine V_tabO (pc := 11) 113 dX4_child_11 (by first | omega | assumption | exact and1_lt _ | exact nb_p) (by omega) (by decide) (by decide) ?_
    refine V_bipush (pc := 113) 4294967294 dX4_child_113 (by decide) ?_
    exact hret _ _ _ _ dX4_child_115 (by unfold chX; (repeat' split) <;> first | (exfalso; omega) | exact ⟨rfl, rfl⟩ | (exfalso; apply h_76; assumption) | (exfalso; rename_i q; exact q h_76))
  · skip
    refine V_iconst (pc := 8) 4294967295 dX4_child_8 (by decide) ?_
    exact hret _ _ _ _ dX4_child_9 (by unfold chX; (repeat' split) <;> first | (exfalso; omega) | exact ⟨rfl, rfl⟩ | (exfalso; apply h_76; assumption) | (exfalso; rename_i q; exact q h_76))
set_option maxHeartbeats 4000000 in
set_option maxRecDepth 100000 in
theorem c_X4_knows {B : Bk} {σ : St} {c s : Nat} (hc : c < 2 ^ 32) (hs : s < 2 ^ 32) (g : GX σ) : MC yX4_knows cX4_knows 3 (some .int) 2 B [.ref (B.1 17), .int (nI c), .int (nI s)] σ (dI (knX σ c s) σ) := by
  obtain ⟨hx, hp, hd⟩ := id g
  have hb := hx.1
  obtain ⟨b1, b2, b3, b4, b5, b6, b7, b8⟩ := kd3' hb
  obtain ⟨o0, o1, o2, o3, o4, o5⟩ := id hx.2.1.1
  have n7 : σ (σ 17 2) 7 ≤ 4 := o0
  have n8 : σ (σ 17 2) 8 ≤ 6 := o1
  have n9 : σ (σ 17 2) 9 ≤ 5 := o2
  have hc5 : ∀ i, i < 5 → σ (45 + 1) i < 12 := fun i h => by have := hp.1 i h; rw [pX_c h] at this; exact this
  have hm5 : σ 45 2 < 32 := hp.2.1
  have hd3 : σ 45 3 ≤ 2 ^ 20 := hd
  have hgc : ∀ i, i < σ (σ 17 2) 8 → σ (σ 17 2 + 2) i < 12 := fun i h => (o4 i h).1
  refine MC_int RX4 [some (.ref (B.1 17)), some (.int (nI c)), some (.int (nI s))] 0 (by decide +kernel) rfl rfl (Nat.le_of_ble_eq_true rfl) (fun E Q hret => ?_)
  refine V_aload_n (pc := 0) dX4_knows_0 rfl ?_
  refine V_iload_n (pc := 1) dX4_knows_1 rfl ?_
  refine V_callV_I (pc := 2) ff_X4_isChild ml_X4_115 (by first | rfl | assumption) rfl rfl (c_X4_isChild (by assumption) (by first | omega | assumption | exact and1_lt _ | exact nb_p) (by omega)) dX4_knows_2 rfl rfl (by decide) (by decide) (Nat.le_of_ble_eq_true rfl) ?_
  refine V_ifb_eq (pc := 5) 15 dX4_knows_5 (by decide) (fun h_5 => ?_) (fun h_5 => ?_)
  · skip
    refine V_iconst (pc := 15) 4294967295 dX4_knows_15 (by decide) ?_
    exact hret _ _ _ _ dX4_knows_16 (by unfold knX; (repeat' split) <;> first | (exfalso; omega) | exact ⟨rfl, rfl⟩)
  · skip
    refine V_iload_n (pc := 8) dX4_knows_8 rfl ?_
    refine V_callS_I (pc := 9) ff_X4_isSubject ml_X4_134 (c_X4_isSubject (by first | omega | assumption | exact and1_lt _ | exact nb_p)) dX4_knows_9 rfl rfl (by decide) (by decide) (Nat.le_of_ble_eq_true rfl) ?_
    refine V_ifb_ne (pc := 12) 17 dX4_knows_12 (by decide) (fun h_12 => ?_) (fun h_12 => ?_)
    · skip
      refine V_aload_n (pc := 17) dX4_knows_17 rfl ?_
      refine G_X4_now (pc := 18) (by first | rfl | assumption) fl_X4_26 dX4_knows_18 ?_
      refine V_iload_n (pc := 21) dX4_knows_21 rfl ?_
      refine V_iload_n (pc := 22) dX4_knows_22 rfl ?_
      refine V_callV_I (pc := 23) ff_X3_known ml_X4_137 (by first | rfl | assumption) rfl rfl (c_X3_known (k := 45) rfl (by omega) (by omega)) dX4_knows_23 rfl rfl (by decide) (by decide) (Nat.le_of_ble_eq_true rfl) ?_
      exact hret _ _ _ _ dX4_knows_26 (by unfold knX; (repeat' split) <;> first | (exfalso; omega) | exact ⟨rfl, rfl⟩)
    · skip
      refine V_iconst (pc := 15) 4294967295 dX4_knows_15 (by decide) ?_
      exact hret _ _ _ _ dX4_knows_16 (by unfold knX; (repeat' split) <;> first | (exfalso; omega) | exact ⟨rfl, rfl⟩)
theorem rm_k (σ : St) (h : OKX σ (σ 17 2)) : OKX (rmX σ 45) (σ 17 2) ∧ KX (rmX σ 45) (σ 17 2) = KX σ (σ 17 2) ∧ pX (rmX σ 45) 45 = pX σ 45 ∧ rmX σ 45 17 = σ 17 := by
  have b8 := (kd3' h.1).2.2.2.2.2.2.2
  exact ⟨OKX_same h (fun k h1 h2 => rmX_o (by omega) (by omega)), KX_same (fun k h1 h2 => rmX_o (by omega) (by omega)), pX_same (rmX_o (by omega) (by omega)) (rmX_o (by omega) (by omega)) (rmX_o (by omega) (by omega)), rmX_o (by omega) (by omega)⟩
set_option maxHeartbeats 4000000 in
set_option maxRecDepth 100000 in
theorem c_X4_day {B : Bk} {σ : St} (g : GX σ) (hn : σ 23 1 < 14) (ha : σ 23 2 ≤ 14) : MC yX4_day cX4_day 1 (some .int) 4 B [.ref (B.1 17)] σ (dP (dyX σ)) := by
  obtain ⟨hx, hp, hd⟩ := id g
  have hb := hx.1
  obtain ⟨b1, b2, b3, b4, b5, b6, b7, b8⟩ := kd3' hb
  obtain ⟨o0, o1, o2, o3, o4, o5⟩ := id hx.2.1.1
  have n7 : σ (σ 17 2) 7 ≤ 4 := o0
  have n8 : σ (σ 17 2) 8 ≤ 6 := o1
  have n9 : σ (σ 17 2) 9 ≤ 5 := o2
  have hc5 : ∀ i, i < 5 → σ (45 + 1) i < 12 := fun i h => by have := hp.1 i h; rw [pX_c h] at this; exact this
  have hm5 : σ 45 2 < 32 := hp.2.1
  have hd3 : σ 45 3 ≤ 2 ^ 20 := hd
  have hgc : ∀ i, i < σ (σ 17 2) 8 → σ (σ 17 2 + 2) i < 12 := fun i h => (o4 i h).1
  obtain ⟨r1, r2, r3, r4⟩ := rm_k σ hx
  refine MC_int RX4 [some (.ref (B.1 17))] 0 (by decide +kernel) rfl rfl (Nat.le_of_ble_eq_true rfl) (fun E Q hret => ?_)
  refine V_aload_n (pc := 0) dX4_day_0 rfl ?_
  refine G_X4_past (pc := 1) (by first | rfl | assumption) fl_X4_39 dX4_day_1 ?_
  refine V_aload_n (pc := 4) dX4_day_4 rfl ?_
  refine G_X4_now (pc := 5) (by first | rfl | assumption) fl_X4_26 dX4_day_5 ?_
  refine V_callV_V (pc := 8) ff_X2_remember ml_X4_140 (by first | rfl | assumption) rfl rfl (c_X2_remember (j := 45) rfl hn ha (by omega)) dX4_day_8 rfl rfl (by decide) (by decide) (Nat.le_of_ble_eq_true rfl) ?_
  refine V_aload_n (pc := 11) dX4_day_11 rfl ?_
  refine G_X4_now (pc := 12) (by first | rfl | assumption) fl_X4_26 dX4_day_12 ?_
  refine V_aload_n (pc := 15) dX4_day_15 rfl ?_
  refine G_X4_shore (pc := 16) (by first | rfl | assumption) fl_X4_16 dX4_day_16 ?_
  refine V_iconst (pc := 19) 1 dX4_day_19 (by decide) ?_
  refine V_bipush (pc := 20) 63 dX4_day_20 (by decide) ?_
  rw [r4, ← stX_self (rmX σ 45) 45]
  refine V_callV_V (pc := 22) ff_X3_pass ml_X4_144 (by first | rfl | assumption) rfl rfl (c_X3_pass2 (k := 45) (z := 1) (th := 63) rfl r1 (Z_pX _ _) (by rw [r3]; exact hp) (by decide) (by decide) (by rw [r3]; omega)) dX4_day_22 rfl rfl (by decide) (by decide) (Nat.le_of_ble_eq_true rfl) ?_
  rw [r2, r3, if_pos rfl]
  refine V_aload_n (pc := 25) dX4_day_25 rfl ?_
  refine G_X4_now (pc := 26) (by first | rfl | assumption) fl_X4_26 dX4_day_26 ?_
  refine V_callV_I (pc := 29) ff_X3_weights ml_X4_148 (by first | rfl | assumption) rfl rfl (c_X3_weights (k := 45) rfl) dX4_day_29 rfl rfl (by decide) (by decide) (Nat.le_of_ble_eq_true rfl) ?_
  rw [pX_stX _ _ (by exact Z_itr hx.2.1.1 (Z_pX σ 45) 63 1)]
  exact hret _ _ _ _ dX4_day_32 ⟨rfl, rfl⟩
set_option maxHeartbeats 4000000 in
set_option maxRecDepth 100000 in
theorem c_X4_set {B : Bk} {σ : St} {c x : Nat} (hc : c < 2 ^ 32) (hxx : x < 2 ^ 32) (g : GX σ) (hn : σ 23 1 < 14) (ha : σ 23 2 ≤ 14) : MC yX4_set cX4_set 4 (some .int) 3 B [.ref (B.1 17), .int (nI c), .int (nI x)] σ (dP (seX σ c x)) := by
  obtain ⟨hx, hp, hd⟩ := id g
  have hb := hx.1
  obtain ⟨b1, b2, b3, b4, b5, b6, b7, b8⟩ := kd3' hb
  obtain ⟨o0, o1, o2, o3, o4, o5⟩ := id hx.2.1.1
  have n7 : σ (σ 17 2) 7 ≤ 4 := o0
  have n8 : σ (σ 17 2) 8 ≤ 6 := o1
  have n9 : σ (σ 17 2) 9 ≤ 5 := o2
  have hc5 : ∀ i, i < 5 → σ (45 + 1) i < 12 := fun i h => by have := hp.1 i h; rw [pX_c h] at this; exact this
  have hm5 : σ 45 2 < 32 := hp.2.1
  have hd3 : σ 45 3 ≤ 2 ^ 20 := hd
  have hgc : ∀ i, i < σ (σ 17 2) 8 → σ (σ 17 2 + 2) i < 12 := fun i h => (o4 i h).1
  refine MC_int RX4 [some (.ref (B.1 17)), some (.int (nI c)), some (.int (nI x)), none] 1 (by decide +kernel) rfl rfl (Nat.le_of_ble_eq_true rfl) (fun E Q hret => ?_)
  refine V_aload_n (pc := 0) dX4_set_0 rfl ?_
  refine V_iload_n (pc := 1) dX4_set_1 rfl ?_
  refine V_callV_I (pc := 2) ff_X4_isChild ml_X4_115 (by first | rfl | assumption) rfl rfl (c_X4_isChild (by assumption) (by first | omega | assumption | exact and1_lt _ | exact nb_p) (by omega)) dX4_set_2 rfl rfl (by decide) (by decide) (Nat.le_of_ble_eq_true rfl) ?_
  refine V_ifb_eq (pc := 5) 15 dX4_set_5 (by decide) (fun h_5 => ?_) (fun h_5 => ?_)
  · skip
    refine V_iconst (pc := 15) 4294967295 dX4_set_15 (by decide) ?_
    exact hret _ _ _ _ dX4_set_16 (by unfold seX; (repeat' split) <;> first | (exfalso; omega) | exact ⟨rfl, rfl⟩)
  · skip
    refine V_iload_n (pc := 8) dX4_set_8 rfl ?_
    refine V_callS_I (pc := 9) ff_X4_isCell ml_X4_151 (c_X4_isCell (by first | omega | assumption | exact and1_lt _ | exact nb_p)) dX4_set_9 rfl rfl (by decide) (by decide) (Nat.le_of_ble_eq_true rfl) ?_
    refine V_ifb_ne (pc := 12) 17 dX4_set_12 (by decide) (fun h_12 => ?_) (fun h_12 => ?_)
    · skip
      refine V_aload_n (pc := 17) dX4_set_17 rfl ?_
      refine G_X4_now (pc := 18) (by first | rfl | assumption) fl_X4_26 dX4_set_18 ?_
      refine G_X3_cells (pc := 21) (by first | rfl | assumption) fl_X4_118 dX4_set_21 ?_
      refine V_iload_n (pc := 24) dX4_set_24 rfl ?_
      refine V_callS_I (pc := 25) ff_X4_at ml_X4_101 (c_X4_atI (n := 5) rfl (by omega)) dX4_set_25 rfl rfl (by decide) (by decide) (Nat.le_of_ble_eq_true rfl) ?_
      refine V_istore_n (pc := 28) dX4_set_28 (by decide) rfl ?_
      refine V_iload_n (pc := 29) dX4_set_29 rfl ?_
      refine V_iload_n (pc := 30) dX4_set_30 rfl ?_
      refine V_icmp_ne (pc := 31) 37 dX4_set_31 (by decide) (by have := hc5 c (by omega); omega) (by omega) (fun h_31 => ?_) (fun h_31 => ?_)
      · skip
        refine V_aload_n (pc := 37) dX4_set_37 rfl ?_
        refine G_X4_past (pc := 38) (by first | rfl | assumption) fl_X4_39 dX4_set_38 ?_
        refine V_aload_n (pc := 41) dX4_set_41 rfl ?_
        refine G_X4_now (pc := 42) (by first | rfl | assumption) fl_X4_26 dX4_set_42 ?_
        refine V_callV_V (pc := 45) ff_X2_remember ml_X4_140 (by first | rfl | assumption) rfl rfl (c_X2_remember (j := 45) rfl hn ha (by omega)) dX4_set_45 rfl rfl (by decide) (by decide) (Nat.le_of_ble_eq_true rfl) ?_
        refine V_aload_n (pc := 48) dX4_set_48 rfl ?_
        refine G_X4_now (pc := 49) (by first | rfl | assumption) fl_X4_26 dX4_set_49 ?_
        refine G_X3_cells (pc := 52) (by first | rfl | assumption) fl_X4_118 dX4_set_52 ?_
        refine V_iload_n (pc := 55) dX4_set_55 rfl ?_
        refine V_iload_n (pc := 56) dX4_set_56 rfl ?_
        refine V_callS_V (pc := 57) ff_X4_lay ml_X4_67 (c_X4_layI (n := 5) rfl (by omega)) dX4_set_57 rfl rfl (by decide) (by decide) (Nat.le_of_ble_eq_true rfl) ?_
        refine V_iload_n (pc := 60) dX4_set_60 rfl ?_
        exact hret _ _ _ _ dX4_set_61 (by unfold seX; (repeat' split) <;> first | (exfalso; omega) | exact ⟨rfl, rfl⟩)
      · skip
        refine V_bipush (pc := 34) 4294967293 dX4_set_34 (by decide) ?_
        exact hret _ _ _ _ dX4_set_36 (by unfold seX; (repeat' split) <;> first | (exfalso; omega) | exact ⟨rfl, rfl⟩)
    · skip
      refine V_iconst (pc := 15) 4294967295 dX4_set_15 (by decide) ?_
      exact hret _ _ _ _ dX4_set_16 (by unfold seX; (repeat' split) <;> first | (exfalso; omega) | exact ⟨rfl, rfl⟩)
set_option maxHeartbeats 4000000 in
set_option maxRecDepth 100000 in
theorem c_X4_moor {B : Bk} {σ : St} {c : Nat} (hc : c < 2 ^ 32) (g : GX σ) (hn : σ 23 1 < 14) (ha : σ 23 2 ≤ 14) : MC yX4_moor cX4_moor 2 (some .int) 3 B [.ref (B.1 17), .int (nI c)] σ (dP (moX σ c)) := by
  obtain ⟨hx, hp, hd⟩ := id g
  have hb := hx.1
  obtain ⟨b1, b2, b3, b4, b5, b6, b7, b8⟩ := kd3' hb
  obtain ⟨o0, o1, o2, o3, o4, o5⟩ := id hx.2.1.1
  have n7 : σ (σ 17 2) 7 ≤ 4 := o0
  have n8 : σ (σ 17 2) 8 ≤ 6 := o1
  have n9 : σ (σ 17 2) 9 ≤ 5 := o2
  have hc5 : ∀ i, i < 5 → σ (45 + 1) i < 12 := fun i h => by have := hp.1 i h; rw [pX_c h] at this; exact this
  have hm5 : σ 45 2 < 32 := hp.2.1
  have hd3 : σ 45 3 ≤ 2 ^ 20 := hd
  have hgc : ∀ i, i < σ (σ 17 2) 8 → σ (σ 17 2 + 2) i < 12 := fun i h => (o4 i h).1
  refine MC_int RX4 [some (.ref (B.1 17)), some (.int (nI c))] 0 (by decide +kernel) rfl rfl (Nat.le_of_ble_eq_true rfl) (fun E Q hret => ?_)
  refine V_aload_n (pc := 0) dX4_moor_0 rfl ?_
  refine V_iload_n (pc := 1) dX4_moor_1 rfl ?_
  refine V_callV_I (pc := 2) ff_X4_isChild ml_X4_115 (by first | rfl | assumption) rfl rfl (c_X4_isChild (by assumption) (by first | omega | assumption | exact and1_lt _ | exact nb_p) (by omega)) dX4_moor_2 rfl rfl (by decide) (by decide) (Nat.le_of_ble_eq_true rfl) ?_
  refine V_ifb_ne (pc := 5) 10 dX4_moor_5 (by decide) (fun h_5 => ?_) (fun h_5 => ?_)
  · skip
    refine V_aload_n (pc := 10) dX4_moor_10 rfl ?_
    refine G_X4_past (pc := 11) (by first | rfl | assumption) fl_X4_39 dX4_moor_11 ?_
    refine V_aload_n (pc := 14) dX4_moor_14 rfl ?_
    refine G_X4_now (pc := 15) (by first | rfl | assumption) fl_X4_26 dX4_moor_15 ?_
    refine V_callV_V (pc := 18) ff_X2_remember ml_X4_140 (by first | rfl | assumption) rfl rfl (c_X2_remember (j := 45) rfl hn ha (by omega)) dX4_moor_18 rfl rfl (by decide) (by decide) (Nat.le_of_ble_eq_true rfl) ?_
    refine V_aload_n (pc := 21) dX4_moor_21 rfl ?_
    refine G_X4_now (pc := 22) (by first | rfl | assumption) fl_X4_26 dX4_moor_22 ?_
    refine V_iload_n (pc := 25) dX4_moor_25 rfl ?_
    refine V_callV_V (pc := 26) ff_X3_turnMooring ml_X4_154 (by first | rfl | assumption) rfl rfl (c_X3_turnMooring (k := 45) rfl (by omega)) dX4_moor_26 rfl rfl (by decide) (by decide) (Nat.le_of_ble_eq_true rfl) ?_
    rw [rmX_o (show 45 ≠ 23 by decide) (by decide)]
    have hxl := xor_lt hm5 (show c < 5 by omega)
    refine V_aload_n (pc := 29) dX4_moor_29 rfl ?_
    refine G_X4_now (pc := 30) (by first | rfl | assumption) fl_X4_26 dX4_moor_30 ?_
    refine V_iload_n (pc := 33) dX4_moor_33 rfl ?_
    refine V_callV_I (pc := 34) ff_X3_isMoored ml_X4_124 (by first | rfl | assumption) rfl rfl (c_X3_isMoored (k := 45) rfl (by rw [pt_at]; omega) (by omega)) dX4_moor_34 rfl rfl (by decide) (by decide) (Nat.le_of_ble_eq_true rfl) ?_
    rw [pt_at]
    refine V_ifb_eq (pc := 37) 44 dX4_moor_37 (by decide) (fun h_37 => ?_) (fun h_37 => ?_)
    · skip
      refine V_iconst (pc := 44) 0 dX4_moor_44 (by decide) ?_
      exact hret _ _ _ _ dX4_moor_45 (by unfold moX; rw [if_pos (by omega)]; first | (rw [if_neg h_37]; exact ⟨rfl, rfl⟩) | (rw [if_pos h_37]; exact ⟨rfl, rfl⟩))
    · skip
      refine V_iconst (pc := 40) 1 dX4_moor_40 (by decide) ?_
      refine V_goto (pc := 41) 45 dX4_moor_41 (by decide) ?_
      exact hret _ _ _ _ dX4_moor_45 (by unfold moX; rw [if_pos (by omega)]; first | (rw [if_neg h_37]; exact ⟨rfl, rfl⟩) | (rw [if_pos h_37]; exact ⟨rfl, rfl⟩))
  · skip
    refine V_iconst (pc := 8) 4294967295 dX4_moor_8 (by decide) ?_
    exact hret _ _ _ _ dX4_moor_9 (by unfold moX; (repeat' split) <;> first | (exfalso; omega) | exact ⟨rfl, rfl⟩)
set_option maxHeartbeats 4000000 in
set_option maxRecDepth 100000 in
theorem c_X4_put {B : Bk} {σ : St} {c : Nat} (hc : c < 2 ^ 32) (g : GX σ) (hn : σ 23 1 < 14) (ha : σ 23 2 ≤ 14) : MC yX4_put cX4_put 3 (some .int) 3 B [.ref (B.1 17), .int (nI c)] σ (dP (puX σ c)) := by
  obtain ⟨hx, hp, hd⟩ := id g
  have hb := hx.1
  obtain ⟨b1, b2, b3, b4, b5, b6, b7, b8⟩ := kd3' hb
  obtain ⟨o0, o1, o2, o3, o4, o5⟩ := id hx.2.1.1
  have n7 : σ (σ 17 2) 7 ≤ 4 := o0
  have n8 : σ (σ 17 2) 8 ≤ 6 := o1
  have n9 : σ (σ 17 2) 9 ≤ 5 := o2
  have hc5 : ∀ i, i < 5 → σ (45 + 1) i < 12 := fun i h => by have := hp.1 i h; rw [pX_c h] at this; exact this
  have hm5 : σ 45 2 < 32 := hp.2.1
  have hd3 : σ 45 3 ≤ 2 ^ 20 := hd
  have hgc : ∀ i, i < σ (σ 17 2) 8 → σ (σ 17 2 + 2) i < 12 := fun i h => (o4 i h).1
  obtain ⟨r1, r2, r3, r4⟩ := rm_k σ hx
  refine MC_int RX4 [some (.ref (B.1 17)), some (.int (nI c)), none] 1 (by decide +kernel) rfl rfl (Nat.le_of_ble_eq_true rfl) (fun E Q hret => ?_)
  refine V_aload_n (pc := 0) dX4_put_0 rfl ?_
  refine V_iload_n (pc := 1) dX4_put_1 rfl ?_
  refine V_callV_I (pc := 2) ff_X4_isChild ml_X4_115 (by first | rfl | assumption) rfl rfl (c_X4_isChild (by assumption) (by first | omega | assumption | exact and1_lt _ | exact nb_p) (by omega)) dX4_put_2 rfl rfl (by decide) (by decide) (Nat.le_of_ble_eq_true rfl) ?_
  refine V_ifb_ne (pc := 5) 10 dX4_put_5 (by decide) (fun h_5 => ?_) (fun h_5 => ?_)
  · skip
    refine V_aload_n (pc := 10) dX4_put_10 rfl ?_
    refine G_X4_now (pc := 11) (by first | rfl | assumption) fl_X4_26 dX4_put_11 ?_
    refine V_iload_n (pc := 14) dX4_put_14 rfl ?_
    refine V_callV_I (pc := 15) ff_X3_weight ml_X4_127 (by first | rfl | assumption) rfl rfl (c_X3_weight (k := 45) rfl (by omega)) dX4_put_15 rfl rfl (by decide) (by decide) (Nat.le_of_ble_eq_true rfl) ?_
    refine V_istore_n (pc := 18) dX4_put_18 (by decide) rfl ?_
    refine V_iload_n (pc := 19) dX4_put_19 rfl ?_
    refine V_if_ne (pc := 20) 26 dX4_put_20 (by decide) (by have := wtF_le hp (show c < 5 by omega) 5 (by omega); omega) (fun h_20 => ?_) (fun h_20 => ?_)
    · skip
      refine V_aload_n (pc := 26) dX4_put_26 rfl ?_
      refine G_X4_past (pc := 27) (by first | rfl | assumption) fl_X4_39 dX4_put_27 ?_
      refine V_aload_n (pc := 30) dX4_put_30 rfl ?_
      refine G_X4_now (pc := 31) (by first | rfl | assumption) fl_X4_26 dX4_put_31 ?_
      refine V_callV_V (pc := 34) ff_X2_remember ml_X4_140 (by first | rfl | assumption) rfl rfl (c_X2_remember (j := 45) rfl hn ha (by omega)) dX4_put_34 rfl rfl (by decide) (by decide) (Nat.le_of_ble_eq_true rfl) ?_
      refine V_aload_n (pc := 37) dX4_put_37 rfl ?_
      refine G_X4_now (pc := 38) (by first | rfl | assumption) fl_X4_26 dX4_put_38 ?_
      refine V_iload_n (pc := 41) dX4_put_41 rfl ?_
      refine V_callV_V (pc := 42) ff_X3_unlearn ml_X4_158 (by first | rfl | assumption) rfl rfl (c_X3_unlearn (k := 45) rfl (by omega)) dX4_put_42 rfl rfl (by decide) (by decide) (Nat.le_of_ble_eq_true rfl) ?_
      rw [r3]
      refine V_iload_n (pc := 45) dX4_put_45 rfl ?_
      exact hret _ _ _ _ dX4_put_46 (by unfold puX; (repeat' split) <;> first | (exfalso; omega) | exact ⟨rfl, rfl⟩)
    · skip
      refine V_bipush (pc := 23) 4294967293 dX4_put_23 (by decide) ?_
      exact hret _ _ _ _ dX4_put_25 (by unfold puX; (repeat' split) <;> first | (exfalso; omega) | exact ⟨rfl, rfl⟩)
  · skip
    refine V_iconst (pc := 8) 4294967295 dX4_put_8 (by decide) ?_
    exact hret _ _ _ _ dX4_put_9 (by unfold puX; (repeat' split) <;> first | (exfalso; omega) | exact ⟨rfl, rfl⟩)
set_option maxHeartbeats 4000000 in
set_option maxRecDepth 100000 in
theorem c_X4_undo {B : Bk} {σ : St} (hn : σ 23 1 < 14) (ha : σ 23 2 ≤ 14) : MC yX4_undo cX4_undo 1 (some .int) 3 B [.ref (B.1 17)] σ (dP (unX σ)) := by
  refine MC_int RX4 [some (.ref (B.1 17))] 0 (by decide +kernel) rfl rfl (Nat.le_of_ble_eq_true rfl) (fun E Q hret => ?_)
  refine V_aload_n (pc := 0) dX4_undo_0 rfl ?_
  refine G_X4_past (pc := 1) (by first | rfl | assumption) fl_X4_39 dX4_undo_1 ?_
  refine G_X2_size (pc := 4) (by first | rfl | assumption) fl_X4_161 dX4_undo_4 ?_
  refine V_if_ne (pc := 7) 13 dX4_undo_7 (by decide) (by first | omega | assumption | exact and1_lt _ | exact nb_p) (fun h_7 => ?_) (fun h_7 => ?_)
  · skip
    refine V_aload_n (pc := 13) dX4_undo_13 rfl ?_
    refine G_X4_past (pc := 14) (by first | rfl | assumption) fl_X4_39 dX4_undo_14 ?_
    refine V_aload_n (pc := 17) dX4_undo_17 rfl ?_
    refine G_X4_now (pc := 18) (by first | rfl | assumption) fl_X4_26 dX4_undo_18 ?_
    refine V_callV_V (pc := 21) ff_X2_takeBack ml_X4_164 (by first | rfl | assumption) rfl rfl (c_X2_takeBack (j := 45) rfl hn ha (by omega) (by omega)) dX4_undo_21 rfl rfl (by decide) (by decide) (Nat.le_of_ble_eq_true rfl) ?_
    refine V_aload_n (pc := 24) dX4_undo_24 rfl ?_
    refine G_X4_past (pc := 25) (by first | rfl | assumption) fl_X4_39 dX4_undo_25 ?_
    refine G_X2_size (pc := 28) (by first | rfl | assumption) fl_X4_161 dX4_undo_28 ?_
    rw [show tbX σ 45 23 2 = σ 23 2 - 1 by unfold tbX tb0; rw [stX_o (by decide) (by decide) (by decide), pt_at]]
    exact hret _ _ _ _ dX4_undo_31 (by unfold unX; (repeat' split) <;> first | (exfalso; omega) | exact ⟨rfl, rfl⟩)
  · skip
    refine V_bipush (pc := 10) 4294967293 dX4_undo_10 (by decide) ?_
    exact hret _ _ _ _ dX4_undo_12 (by unfold unX; (repeat' split) <;> first | (exfalso; omega) | exact ⟨rfl, rfl⟩)
set_option maxHeartbeats 4000000 in
set_option maxRecDepth 100000 in
theorem c_X4_knew {B : Bk} {σ : St} {s n v : Nat} (hs : s < 2 ^ 32) (hn : n < 2 ^ 32) (hv : v < 2 ^ 32) (hk : σ 25 3 ≤ 6) : MC yX4_knew cX4_knew 4 (some .int) 2 B [.ref (B.1 17), .int (nI s), .int (nI n), .int (nI v)] σ (dP (kwX σ s n v)) := by
  refine MC_int RX4 [some (.ref (B.1 17)), some (.int (nI s)), some (.int (nI n)), some (.int (nI v))] 0 (by decide +kernel) rfl rfl (Nat.le_of_ble_eq_true rfl) (fun E Q hret => ?_)
  refine V_iload_n (pc := 0) dX4_knew_0 rfl ?_
  refine V_callS_I (pc := 1) ff_X4_isSubject ml_X4_134 (c_X4_isSubject (by first | omega | assumption | exact and1_lt _ | exact nb_p)) dX4_knew_1 rfl rfl (by decide) (by decide) (Nat.le_of_ble_eq_true rfl) ?_
  refine V_ifb_ne (pc := 4) 9 dX4_knew_4 (by decide) (fun h_4 => ?_) (fun h_4 => ?_)
  · skip
    refine V_iload_n (pc := 9) dX4_knew_9 rfl ?_
    refine V_if_lt (pc := 10) 29 dX4_knew_10 (by decide) (by first | omega | assumption | exact and1_lt _ | exact nb_p) (fun h_10 => ?_) (fun h_10 => ?_)
    · skip
      refine V_bipush (pc := 29) 4294967294 dX4_knew_29 (by decide) ?_
      exact hret _ _ _ _ dX4_knew_31 (by unfold kwX; (repeat' split) <;> first | (exfalso; omega) | exact ⟨rfl, rfl⟩)
    · skip
      refine V_iload_n (pc := 13) dX4_knew_13 rfl ?_
      refine V_bipush (pc := 14) 9 dX4_knew_14 (by decide) ?_
      refine V_icmp_gt (pc := 16) 29 dX4_knew_16 (by decide) (by first | omega | assumption | exact and1_lt _ | exact nb_p) (by first | omega | assumption | exact and1_lt _ | exact nb_p) (fun h_16 => ?_) (fun h_16 => ?_)
      · skip
        refine V_bipush (pc := 29) 4294967294 dX4_knew_29 (by decide) ?_
        exact hret _ _ _ _ dX4_knew_31 (by unfold kwX; (repeat' split) <;> first | (exfalso; omega) | exact ⟨rfl, rfl⟩)
      · skip
        refine V_iload_n (pc := 19) dX4_knew_19 rfl ?_
        refine V_if_lt (pc := 20) 29 dX4_knew_20 (by decide) (by first | omega | assumption | exact and1_lt _ | exact nb_p) (fun h_20 => ?_) (fun h_20 => ?_)
        · skip
          refine V_bipush (pc := 29) 4294967294 dX4_knew_29 (by decide) ?_
          exact hret _ _ _ _ dX4_knew_31 (by unfold kwX; (repeat' split) <;> first | (exfalso; omega) | exact ⟨rfl, rfl⟩)
        · skip
          refine V_iload_n (pc := 23) dX4_knew_23 rfl ?_
          refine V_bipush (pc := 24) 9 dX4_knew_24 (by decide) ?_
          refine V_icmp_le (pc := 26) 32 dX4_knew_26 (by decide) (by first | omega | assumption | exact and1_lt _ | exact nb_p) (by first | omega | assumption | exact and1_lt _ | exact nb_p) (fun h_26 => ?_) (fun h_26 => ?_)
          · skip
            refine V_aload_n (pc := 32) dX4_knew_32 rfl ?_
            refine G_X4_memories (pc := 33) (by first | rfl | assumption) fl_X4_50 dX4_knew_33 ?_
            refine G_X1_size (pc := 36) (by first | rfl | assumption) fl_X4_190 dX4_knew_36 ?_
            refine V_bipush (pc := 39) 6 dX4_knew_39 (by decide) ?_
            refine V_icmp_lt (pc := 41) 47 dX4_knew_41 (by decide) (by first | omega | assumption | exact and1_lt _ | exact nb_p) (by first | omega | assumption | exact and1_lt _ | exact nb_p) (fun h_41 => ?_) (fun h_41 => ?_)
            · skip
              refine V_aload_n (pc := 47) dX4_knew_47 rfl ?_
              refine G_X4_memories (pc := 48) (by first | rfl | assumption) fl_X4_50 dX4_knew_48 ?_
              refine V_iload_n (pc := 51) dX4_knew_51 rfl ?_
              refine V_iload_n (pc := 52) dX4_knew_52 rfl ?_
              refine V_iload_n (pc := 53) dX4_knew_53 rfl ?_
              refine V_callV_V (pc := 54) ff_X1_add ml_X4_191 (by first | rfl | assumption) rfl rfl (c_X1_add (by omega)) dX4_knew_54 rfl rfl (by decide) (by decide) (Nat.le_of_ble_eq_true rfl) ?_
              refine V_aload_n (pc := 57) dX4_knew_57 rfl ?_
              refine G_X4_memories (pc := 58) (by first | rfl | assumption) fl_X4_50 dX4_knew_58 ?_
              refine G_X1_size (pc := 61) (by first | rfl | assumption) fl_X4_190 dX4_knew_61 ?_
              rw [pt_at]
              exact hret _ _ _ _ dX4_knew_64 (by unfold kwX; (repeat' split) <;> first | (exfalso; omega) | exact ⟨rfl, rfl⟩)
            · skip
              refine V_bipush (pc := 44) 4294967292 dX4_knew_44 (by decide) ?_
              exact hret _ _ _ _ dX4_knew_46 (by unfold kwX; (repeat' split) <;> first | (exfalso; omega) | exact ⟨rfl, rfl⟩)
          · skip
            refine V_bipush (pc := 29) 4294967294 dX4_knew_29 (by decide) ?_
            exact hret _ _ _ _ dX4_knew_31 (by unfold kwX; (repeat' split) <;> first | (exfalso; omega) | exact ⟨rfl, rfl⟩)
  · skip
    refine V_iconst (pc := 7) 4294967295 dX4_knew_7 (by decide) ?_
    exact hret _ _ _ _ dX4_knew_8 (by unfold kwX; (repeat' split) <;> first | (exfalso; omega) | exact ⟨rfl, rfl⟩)
set_option maxHeartbeats 4000000 in
set_option maxRecDepth 100000 in
theorem c_X4_keep {B : Bk} {σ : St} {s : Nat} (hs : s < 2 ^ 32) : MC yX4_keep cX4_keep 3 (some .int) 2 B [.ref (B.1 17), .int (nI s)] σ (dP (keX σ s)) := by
  refine MC_int RX4 [some (.ref (B.1 17)), some (.int (nI s)), none] 1 (by decide +kernel) rfl rfl (Nat.le_of_ble_eq_true rfl) (fun E Q hret => ?_)
  refine V_aload_n (pc := 0) dX4_keep_0 rfl ?_
  refine V_iload_n (pc := 1) dX4_keep_1 rfl ?_
  refine V_callV (pc := 2) ff_X4_slotAt ml_X4_239 (by first | rfl | assumption) rfl rfl (c_X4_slotAt hs) dX4_keep_2 rfl rfl (by decide) (by decide) (Nat.le_of_ble_eq_true rfl) (fun v u hu => ?_)
  obtain ⟨rfl, rfl⟩ := hu
  by_cases hs2 : s < 2
  rotate_left
  · rw [if_neg hs2]
    simp only [Option.toList, List.cons_append, List.nil_append]
    refine V_astore_nN (pc := 5) dX4_keep_5 (by decide) rfl ?_
    refine V_aload_nN (pc := 6) dX4_keep_6 rfl ?_
    refine V_ifnonnullN (pc := 7) dX4_keep_7 ?_
    refine V_iconst (pc := 10) 4294967295 dX4_keep_10 (by decide) ?_
    exact hret _ _ _ _ dX4_keep_11 (by unfold keX; (repeat' split) <;> first | (exfalso; omega) | exact ⟨rfl, rfl⟩)
  have hks := kdK s hs2
  rw [if_pos hs2, show rT 22 s = 54 + 3 * s from rfl]
  simp only [Option.toList, List.cons_append, List.nil_append]
  refine V_astore_n (pc := 5) dX4_keep_5 (by decide) rfl ?_
  refine V_aload_n (pc := 6) dX4_keep_6 rfl ?_
  refine V_ifnonnull (pc := 7) 12 dX4_keep_7 (by decide) ?_
  refine V_aload_n (pc := 12) dX4_keep_12 rfl ?_
  refine V_aload_n (pc := 13) dX4_keep_13 rfl ?_
  refine G_X4_now (pc := 14) (by first | rfl | assumption) fl_X4_26 dX4_keep_14 ?_
  refine V_callV_V (pc := 17) ff_X3_take ml_X4_170 hks rfl rfl (c_X3_take hks rfl (by omega)) dX4_keep_17 rfl rfl (by decide) (by decide) (Nat.le_of_ble_eq_true rfl) ?_
  refine V_aload_n (pc := 20) dX4_keep_20 rfl ?_
  refine V_dup (pc := 21) dX4_keep_21 rfl ?_
  refine G_X4_keptBits (pc := 22) (by first | rfl | assumption) fl_X4_82 dX4_keep_22 ?_
  rw [stX_o (by omega) (by omega) (by omega)]
  refine V_iconst (pc := 25) 1 dX4_keep_25 (by decide) ?_
  refine V_iload_n (pc := 26) dX4_keep_26 rfl ?_
  refine V_ishl (pc := 27) dX4_keep_27 (by first | omega | assumption | exact and1_lt _ | exact nb_p) ?_
  refine V_ior (pc := 28) dX4_keep_28 ?_
  refine P_X4_keptBits (pc := 29) (by first | rfl | assumption) fl_X4_82 dX4_keep_29 ?_
  refine V_aload_n (pc := 32) dX4_keep_32 rfl ?_
  refine G_X4_now (pc := 33) (by first | rfl | assumption) fl_X4_26 dX4_keep_33 ?_
  refine G_X3_day (pc := 36) (by first | rfl | assumption) fl_X4_243 dX4_keep_36 ?_
  rw [pt_ne (by omega), stX_o (by omega) (by omega) (by omega)]
  exact hret _ _ _ _ dX4_keep_39 (by unfold keX; (repeat' split) <;> first | (exfalso; omega) | exact ⟨rfl, rfl⟩)
set_option maxHeartbeats 4000000 in
set_option maxRecDepth 100000 in
theorem c_X4_again {B : Bk} {σ : St} {s : Nat} (hs : s < 2 ^ 32) (hk : σ 17 9 < 4) : MC yX4_again cX4_again 3 (some .int) 2 B [.ref (B.1 17), .int (nI s)] σ (dP (agX σ s)) := by
  refine MC_int RX4 [some (.ref (B.1 17)), some (.int (nI s)), none] 1 (by decide +kernel) rfl rfl (Nat.le_of_ble_eq_true rfl) (fun E Q hret => ?_)
  refine V_aload_n (pc := 0) dX4_again_0 rfl ?_
  refine V_iload_n (pc := 1) dX4_again_1 rfl ?_
  refine V_callV (pc := 2) ff_X4_slotAt ml_X4_239 (by first | rfl | assumption) rfl rfl (c_X4_slotAt hs) dX4_again_2 rfl rfl (by decide) (by decide) (Nat.le_of_ble_eq_true rfl) (fun v u hu => ?_)
  obtain ⟨rfl, rfl⟩ := hu
  by_cases hs2 : s < 2
  rotate_left
  · rw [if_neg hs2]
    simp only [Option.toList, List.cons_append, List.nil_append]
    refine V_astore_nN (pc := 5) dX4_again_5 (by decide) rfl ?_
    refine V_aload_nN (pc := 6) dX4_again_6 rfl ?_
    refine V_ifnonnullN (pc := 7) dX4_again_7 ?_
    refine V_iconst (pc := 10) 4294967295 dX4_again_10 (by decide) ?_
    exact hret _ _ _ _ dX4_again_11 (by unfold agX; (repeat' split) <;> first | (exfalso; omega) | exact ⟨rfl, rfl⟩)
  have hks := kdK s hs2
  rw [if_pos hs2, show rT 22 s = 54 + 3 * s from rfl]
  simp only [Option.toList, List.cons_append, List.nil_append]
  refine V_astore_n (pc := 5) dX4_again_5 (by decide) rfl ?_
  refine V_aload_n (pc := 6) dX4_again_6 rfl ?_
  refine V_ifnonnull (pc := 7) 12 dX4_again_7 (by decide) ?_
  refine V_aload_n (pc := 12) dX4_again_12 rfl ?_
  refine G_X4_keptBits (pc := 13) (by first | rfl | assumption) fl_X4_82 dX4_again_13 ?_
  refine V_iload_n (pc := 16) dX4_again_16 rfl ?_
  refine V_ishr (pc := 17) dX4_again_17 (by first | omega | assumption | exact and1_lt _ | exact nb_p) (by first | omega | assumption | exact and1_lt _ | exact nb_p) ?_
  refine V_iconst (pc := 18) 1 dX4_again_18 (by decide) ?_
  refine V_iand (pc := 19) dX4_again_19 ?_
  refine V_if_ne (pc := 20) 26 dX4_again_20 (by decide) (Nat.lt_trans (and1_lt _) (by decide)) (fun h_20 => ?_) (fun h_20 => ?_)
  · skip
    refine V_aload_n (pc := 26) dX4_again_26 rfl ?_
    refine G_X4_now (pc := 27) (by first | rfl | assumption) fl_X4_26 dX4_again_27 ?_
    refine V_aload_n (pc := 30) dX4_again_30 rfl ?_
    refine V_callV_V (pc := 31) ff_X3_take ml_X4_170 (by first | rfl | assumption) rfl rfl (c_X3_take (k := 45) rfl hks (by omega)) dX4_again_31 rfl rfl (by decide) (by decide) (Nat.le_of_ble_eq_true rfl) ?_
    refine V_aload_n (pc := 34) dX4_again_34 rfl ?_
    refine G_X4_past (pc := 35) (by first | rfl | assumption) fl_X4_39 dX4_again_35 ?_
    refine V_callV_V (pc := 38) ff_X2_clear ml_X4_79 (by first | rfl | assumption) rfl rfl (c_X2_clear) dX4_again_38 rfl rfl (by decide) (by decide) (Nat.le_of_ble_eq_true rfl) ?_
    refine V_aload_n (pc := 41) dX4_again_41 rfl ?_
    refine G_X4_now (pc := 42) (by first | rfl | assumption) fl_X4_26 dX4_again_42 ?_
    refine G_X3_day (pc := 45) (by first | rfl | assumption) fl_X4_243 dX4_again_45 ?_
    rw [pt_ne (by omega), stX_d, pX_31]
    exact hret _ _ _ _ dX4_again_48 (by have h1 := and1_z (u 17 9 / 2 ^ s); unfold agX; rw [if_pos (by omega), if_pos (tb_and.mp (by omega))]; exact ⟨rfl, rfl⟩)
  · skip
    refine V_bipush (pc := 23) 4294967293 dX4_again_23 (by decide) ?_
    exact hret _ _ _ _ dX4_again_25 (by unfold agX; rw [if_pos (by omega), if_neg (fun q => by have := tb_and.mpr q; omega)]; exact ⟨rfl, rfl⟩)
set_option maxHeartbeats 4000000 in
set_option maxRecDepth 100000 in
theorem c_X4_count {B : Bk} {σ : St} {w : Nat} (hw : w < 2 ^ 32) (g : GX σ) : MC yX4_count cX4_count 2 (some .int) 2 B [.ref (B.1 17), .int (nI w)] σ (dI (cnX σ w) σ) := by
  obtain ⟨hx, hp, hd⟩ := id g
  have hb := hx.1
  obtain ⟨b1, b2, b3, b4, b5, b6, b7, b8⟩ := kd3' hb
  obtain ⟨o0, o1, o2, o3, o4, o5⟩ := id hx.2.1.1
  have n7 : σ (σ 17 2) 7 ≤ 4 := o0
  have n8 : σ (σ 17 2) 8 ≤ 6 := o1
  have n9 : σ (σ 17 2) 9 ≤ 5 := o2
  have hc5 : ∀ i, i < 5 → σ (45 + 1) i < 12 := fun i h => by have := hp.1 i h; rw [pX_c h] at this; exact this
  have hm5 : σ 45 2 < 32 := hp.2.1
  have hd3 : σ 45 3 ≤ 2 ^ 20 := hd
  have hgc : ∀ i, i < σ (σ 17 2) 8 → σ (σ 17 2 + 2) i < 12 := fun i h => (o4 i h).1
  refine MC_int RX4 [some (.ref (B.1 17)), some (.int (nI w))] 0 (by decide +kernel) rfl rfl (Nat.le_of_ble_eq_true rfl) (fun E Q hret => ?_)
  refine V_iload_n (pc := 0) dX4_count_0 rfl ?_
  by_cases hs_1_0 : w = 0
  · skip
    refine V_tabK (pc := 1) (m := 0) 64 dX4_count_1 hs_1_0 (by decide) (by decide) rfl (by decide) ?_
    refine V_aload_n (pc := 64) dX4_count_64 rfl ?_
    refine G_X4_length (pc := 65) (by first | rfl | assumption) fl_X4_63 dX4_count_65 ?_
    exact hret _ _ _ _ dX4_count_68 (by unfold cnX; (repeat' split) <;> first | (exfalso; omega) | exact ⟨rfl, rfl⟩)
  by_cases hs_1_1 : w = 1
  · skip
    refine V_tabK (pc := 1) (m := 1) 69 dX4_count_1 hs_1_1 (by decide) (by decide) rfl (by decide) ?_
    refine V_aload_n (pc := 69) dX4_count_69 rfl ?_
    refine G_X4_shore (pc := 70) (by first | rfl | assumption) fl_X4_16 dX4_count_70 ?_
    refine G_X0_tides (pc := 73) (by first | rfl | assumption) fl_X4_85 dX4_count_73 ?_
    exact hret _ _ _ _ dX4_count_76 (by unfold cnX; (repeat' split) <;> first | (exfalso; omega) | exact ⟨rfl, rfl⟩)
  by_cases hs_1_2 : w = 2
  · skip
    refine V_tabK (pc := 1) (m := 2) 77 dX4_count_1 hs_1_2 (by decide) (by decide) rfl (by decide) ?_
    refine V_aload_n (pc := 77) dX4_count_77 rfl ?_
    refine G_X4_shore (pc := 78) (by first | rfl | assumption) fl_X4_16 dX4_count_78 ?_
    refine G_X0_grounds (pc := 81) (by first | rfl | assumption) fl_X4_88 dX4_count_81 ?_
    exact hret _ _ _ _ dX4_count_84 (by unfold cnX; (repeat' split) <;> first | (exfalso; omega) | exact ⟨rfl, rfl⟩)
  by_cases hs_1_3 : w = 3
  · skip
    refine V_tabK (pc := 1) (m := 3) 85 dX4_count_1 hs_1_3 (by decide) (by decide) rfl (by decide) ?_
    refine V_aload_n (pc := 85) dX4_count_85 rfl ?_
    refine G_X4_shore (pc := 86) (by first | rfl | assumption) fl_X4_16 dX4_count_86 ?_
    refine G_X0_children (pc := 89) (by first | rfl | assumption) fl_X4_91 dX4_count_89 ?_
    exact hret _ _ _ _ dX4_count_92 (by unfold cnX; (repeat' split) <;> first | (exfalso; omega) | exact ⟨rfl, rfl⟩)
  by_cases hs_1_4 : w = 4
  · skip
    refine V_tabK (pc := 1) (m := 4) 93 dX4_count_1 hs_1_4 (by decide) (by decide) rfl (by decide) ?_
    refine V_aload_n (pc := 93) dX4_count_93 rfl ?_
    refine G_X4_now (pc := 94) (by first | rfl | assumption) fl_X4_26 dX4_count_94 ?_
    refine G_X3_day (pc := 97) (by first | rfl | assumption) fl_X4_243 dX4_count_97 ?_
    exact hret _ _ _ _ dX4_count_100 (by unfold cnX; (repeat' split) <;> first | (exfalso; omega) | exact ⟨rfl, rfl⟩)
  by_cases hs_1_5 : w = 5
  · skip
    refine V_tabK (pc := 1) (m := 5) 101 dX4_count_1 hs_1_5 (by decide) (by decide) rfl (by decide) ?_
    refine V_aload_n (pc := 101) dX4_count_101 rfl ?_
    refine G_X4_shore (pc := 102) (by first | rfl | assumption) fl_X4_16 dX4_count_102 ?_
    refine G_X0_groundCells (pc := 105) (by first | rfl | assumption) fl_X4_98 dX4_count_105 ?_
    refine V_aload_n (pc := 108) dX4_count_108 rfl ?_
    refine G_X4_shore (pc := 109) (by first | rfl | assumption) fl_X4_16 dX4_count_109 ?_
    refine G_X0_grounds (pc := 112) (by first | rfl | assumption) fl_X4_88 dX4_count_112 ?_
    refine V_callS_I (pc := 115) ff_X4_cellBits ml_X4_246 (c_X4_cellBits b2 (by omega) (fun i h => by have := hgc i h; omega)) dX4_count_115 rfl rfl (by decide) (by decide) (Nat.le_of_ble_eq_true rfl) ?_
    exact hret _ _ _ _ dX4_count_118 (by unfold cnX; (repeat' split) <;> first | (exfalso; omega) | exact ⟨rfl, rfl⟩)
  by_cases hs_1_6 : w = 6
  · skip
    refine V_tabK (pc := 1) (m := 6) 119 dX4_count_1 hs_1_6 (by decide) (by decide) rfl (by decide) ?_
    refine V_aload_n (pc := 119) dX4_count_119 rfl ?_
    refine G_X4_now (pc := 120) (by first | rfl | assumption) fl_X4_26 dX4_count_120 ?_
    refine G_X3_cells (pc := 123) (by first | rfl | assumption) fl_X4_118 dX4_count_123 ?_
    refine V_aload_n (pc := 126) dX4_count_126 rfl ?_
    refine G_X4_shore (pc := 127) (by first | rfl | assumption) fl_X4_16 dX4_count_127 ?_
    refine G_X0_children (pc := 130) (by first | rfl | assumption) fl_X4_91 dX4_count_130 ?_
    refine V_callS_I (pc := 133) ff_X4_cellBits ml_X4_246 (c_X4_cellBits (l := 5) rfl (by omega) (fun i h => by have := hc5 i (by omega); omega)) dX4_count_133 rfl rfl (by decide) (by decide) (Nat.le_of_ble_eq_true rfl) ?_
    exact hret _ _ _ _ dX4_count_136 (by unfold cnX; (repeat' split) <;> first | (exfalso; omega) | exact ⟨rfl, rfl⟩)
  by_cases hs_1_7 : w = 7
  · skip
    refine V_tabK (pc := 1) (m := 7) 137 dX4_count_1 hs_1_7 (by decide) (by decide) rfl (by decide) ?_
    refine V_aload_n (pc := 137) dX4_count_137 rfl ?_
    refine G_X4_now (pc := 138) (by first | rfl | assumption) fl_X4_26 dX4_count_138 ?_
    refine G_X3_moored (pc := 141) (by first | rfl | assumption) fl_X4_249 dX4_count_141 ?_
    exact hret _ _ _ _ dX4_count_144 (by unfold cnX; (repeat' split) <;> first | (exfalso; omega) | exact ⟨rfl, rfl⟩)
  by_cases hs_1_8 : w = 8
  · skip
    refine V_tabK (pc := 1) (m := 8) 145 dX4_count_1 hs_1_8 (by decide) (by decide) rfl (by decide) ?_
    refine V_aload_n (pc := 145) dX4_count_145 rfl ?_
    refine G_X4_now (pc := 146) (by first | rfl | assumption) fl_X4_26 dX4_count_146 ?_
    refine V_callV_I (pc := 149) ff_X3_weights ml_X4_148 (by first | rfl | assumption) rfl rfl (c_X3_weights (k := 45) rfl) dX4_count_149 rfl rfl (by decide) (by decide) (Nat.le_of_ble_eq_true rfl) ?_
    exact hret _ _ _ _ dX4_count_152 (by unfold cnX; (repeat' split) <;> first | (exfalso; omega) | exact ⟨rfl, rfl⟩)
  by_cases hs_1_9 : w = 9
  · skip
    refine V_tabK (pc := 1) (m := 9) 153 dX4_count_1 hs_1_9 (by decide) (by decide) rfl (by decide) ?_
    refine V_aload_n (pc := 153) dX4_count_153 rfl ?_
    refine G_X4_shore (pc := 154) (by first | rfl | assumption) fl_X4_16 dX4_count_154 ?_
    refine V_aload_n (pc := 157) dX4_count_157 rfl ?_
    refine G_X4_now (pc := 158) (by first | rfl | assumption) fl_X4_26 dX4_count_158 ?_
    refine G_X3_day (pc := 161) (by first | rfl | assumption) fl_X4_243 dX4_count_161 ?_
    refine V_callV_I (pc := 164) ff_X0_wayOn ml_X4_252 hb rfl rfl (c_X0_wayOn hb hx.2.1.1 (by omega)) dX4_count_164 rfl rfl (by decide) (by decide) (Nat.le_of_ble_eq_true rfl) ?_
    exact hret _ _ _ _ dX4_count_167 (by unfold cnX; (repeat' split) <;> first | (exfalso; omega) | exact ⟨rfl, rfl⟩)
  by_cases hs_1_10 : w = 10
  · skip
    refine V_tabK (pc := 1) (m := 10) 168 dX4_count_1 hs_1_10 (by decide) (by decide) rfl (by decide) ?_
    refine V_aload_n (pc := 168) dX4_count_168 rfl ?_
    refine G_X4_past (pc := 169) (by first | rfl | assumption) fl_X4_39 dX4_count_169 ?_
    refine G_X2_size (pc := 172) (by first | rfl | assumption) fl_X4_161 dX4_count_172 ?_
    exact hret _ _ _ _ dX4_count_175 (by unfold cnX; (repeat' split) <;> first | (exfalso; omega) | exact ⟨rfl, rfl⟩)
  by_cases hs_1_11 : w = 11
  · skip
    refine V_tabK (pc := 1) (m := 11) 176 dX4_count_1 hs_1_11 (by decide) (by decide) rfl (by decide) ?_
    refine V_aload_n (pc := 176) dX4_count_176 rfl ?_
    refine G_X4_memories (pc := 177) (by first | rfl | assumption) fl_X4_50 dX4_count_177 ?_
    refine G_X1_size (pc := 180) (by first | rfl | assumption) fl_X4_190 dX4_count_180 ?_
    exact hret _ _ _ _ dX4_count_183 (by unfold cnX; (repeat' split) <;> first | (exfalso; omega) | exact ⟨rfl, rfl⟩)
  refine V_tabO (pc := 1) 184 dX4_count_1 (by first | omega | assumption | exact and1_lt _ | exact nb_p) (by omega) (by decide) (by decide) ?_
  refine V_bipush (pc := 184) 4294967294 dX4_count_184 (by decide) ?_
  exact hret _ _ _ _ dX4_count_186 (by unfold cnX; (repeat' split) <;> first | (exfalso; omega) | exact ⟨rfl, rfl⟩)
def cxW (σ u : St) : St := pt (pt (stX (pt (pt u 17 2 (σ 17 3)) 17 3 (σ 17 2)) 45 (bgN (pX u 45) (u (σ 17 3 + 5)) (u (σ 17 3) 9))) 23 2 0) 17 9 0
def cxP (σ : St) : Option Value → St → Prop := fun v w => ((rdX σ).1 = 4294967287 ∧ v = some (.int (nI (100 * (rdX σ).2 0 0 + 10 * (rdX σ).2 0 1 + (rdX σ).2 0 2))) ∧ ∃ u, SB (σ 17 3) σ u ∧ RX u (σ 17 3) 1 (rdX σ).2 ∧ OKD 1 (rdX σ).2 ∧ w = cxW σ u) ∨ ((rdX σ).1 ≠ 4294967287 ∧ v = some (.int (nI 4294967293)) ∧ SB (σ 17 3) σ w)
theorem rdX_lt {σ : St} (h : σ 17 1 ≤ 48) : (rdX σ).1 < 2 ^ 32 := by
  have := rs_lt (σ 18) (σ 17 1) 0 0 K00
  unfold rdX
  omega
set_option maxHeartbeats 4000000 in
set_option maxRecDepth 100000 in
theorem c_X4_coast {B : Bk} {σ : St} (ty : TY σ) : MC yX4_coast cX4_coast 2 (some .int) 4 B [.ref (B.1 17)] σ (cxP σ) := by
  obtain ⟨t1, t2, t3, hb, t5⟩ := id ty
  have b8 := (kd3' hb).2.2.2.2.2.2.2
  have a8 := (kd3' t3).2.2.2.2.2.2.2
  have hlt := rdX_lt t1
  refine MC_int RX4 [some (.ref (B.1 17)), none] 1 (by decide +kernel) rfl rfl (Nat.le_of_ble_eq_true rfl) (fun E Q hret => ?_)
  refine V_aload_n (pc := 0) dX4_coast_0 rfl ?_
  refine V_callV (pc := 1) ff_X4_readText ml_X4_71 (by first | rfl | assumption) rfl rfl (c_X4_readText ty) dX4_coast_1 rfl rfl (by decide) (by decide) (Nat.le_of_ble_eq_true rfl) (fun v u hu => ?_)
  obtain ⟨rfl, hA, hR⟩ := hu
  simp only [Option.toList, List.cons_append, List.nil_append]
  refine V_bipush (pc := 4) 4294967287 dX4_coast_4 (by decide) ?_
  refine V_icmp_eq (pc := 6) 12 dX4_coast_6 (by decide) (by omega) (by omega) (fun h_6 => ?_) (fun h_6 => ?_)
  · skip
    obtain ⟨r, o⟩ := hR h_6
    obtain ⟨⟨r7, r8, r9, r10⟩, -⟩ := id r
    obtain ⟨-, ⟨⟨o0, o1, o2, -⟩, -⟩, -⟩ := id o
    have u17 : u 17 = σ 17 := hA 17 (by omega)
    have e17 : pt (pt u 17 2 (σ 17 3)) 17 3 (σ 17 2) 17 2 = σ 17 3 := by rw [pt_ne (by omega), pt_at]
    have eo : ∀ k, k ≠ 17 → pt (pt u 17 2 (σ 17 3)) 17 3 (σ 17 2) k = u k := fun k h => by rw [pt_o h, pt_o h]
    refine V_aload_n (pc := 12) dX4_coast_12 rfl ?_
    refine G_X4_shore (pc := 13) (by first | rfl | assumption) fl_X4_16 dX4_coast_13 ?_
    rw [u17]
    refine V_astore_n (pc := 16) dX4_coast_16 (by decide) rfl ?_
    refine V_aload_n (pc := 17) dX4_coast_17 rfl ?_
    refine V_aload_n (pc := 18) dX4_coast_18 rfl ?_
    refine G_X4_draft (pc := 19) (by first | rfl | assumption) fl_X4_20 dX4_coast_19 ?_
    rw [u17]
    refine P_X4_shore (pc := 22) (by first | rfl | assumption) fl_X4_16 dX4_coast_22 ?_
    refine V_aload_n (pc := 25) dX4_coast_25 rfl ?_
    refine V_aload_n (pc := 26) dX4_coast_26 rfl ?_
    refine P_X4_draft (pc := 27) (by first | rfl | assumption) fl_X4_20 dX4_coast_27 ?_
    refine V_aload_n (pc := 30) dX4_coast_30 rfl ?_
    refine G_X4_now (pc := 31) (by first | rfl | assumption) fl_X4_26 dX4_coast_31 ?_
    refine V_aload_n (pc := 34) dX4_coast_34 rfl ?_
    refine G_X4_shore (pc := 35) (by first | rfl | assumption) fl_X4_16 dX4_coast_35 ?_
    rw [e17]
    refine V_callV_V (pc := 38) ff_X3_begin ml_X4_75 (by first | rfl | assumption) rfl rfl (c_X3_begin (k := 45) rfl hb (by rw [eo _ (by omega)]; omega)) dX4_coast_38 rfl rfl (by decide) (by decide) (Nat.le_of_ble_eq_true rfl) ?_
    rw [eo (σ 17 3) (by omega), eo (σ 17 3 + 5) (by omega), pX_same (k := 45) (eo 45 (by decide)) (eo (45 + 1) (by decide)) (eo (45 + 2) (by decide))]
    refine V_aload_n (pc := 41) dX4_coast_41 rfl ?_
    refine G_X4_past (pc := 42) (by first | rfl | assumption) fl_X4_39 dX4_coast_42 ?_
    refine V_callV_V (pc := 45) ff_X2_clear ml_X4_79 (by first | rfl | assumption) rfl rfl (c_X2_clear) dX4_coast_45 rfl rfl (by decide) (by decide) (Nat.le_of_ble_eq_true rfl) ?_
    refine V_aload_n (pc := 48) dX4_coast_48 rfl ?_
    refine V_iconst (pc := 49) 0 dX4_coast_49 (by decide) ?_
    refine P_X4_keptBits (pc := 50) (by first | rfl | assumption) fl_X4_82 dX4_coast_50 ?_
    rw [show pt (pt (stX (pt (pt u 17 2 (σ 17 3)) 17 3 (σ 17 2)) 45 (bgN (pX u 45) (u (σ 17 3 + 5)) (u (σ 17 3) 9))) 23 2 0) 17 9 0 = cxW σ u from rfl]
    have w17 : cxW σ u 17 2 = σ 17 3 := by unfold cxW; rw [pt_ne (by omega), pt_ne (by omega), stX_o (by decide) (by decide) (by decide), e17]
    have wo : ∀ i, cxW σ u (σ 17 3) i = u (σ 17 3) i := fun i => by unfold cxW; rw [pt_ne (by omega), pt_ne (by omega), stX_o (by omega) (by omega) (by omega), eo _ (by omega)]
    refine V_bipush (pc := 53) 100 dX4_coast_53 (by decide) ?_
    refine V_aload_n (pc := 55) dX4_coast_55 rfl ?_
    refine G_X4_shore (pc := 56) (by first | rfl | assumption) fl_X4_16 dX4_coast_56 ?_
    rw [w17]
    refine G_X0_tides (pc := 59) (by first | rfl | assumption) fl_X4_85 dX4_coast_59 ?_
    rw [wo, r7]
    refine V_imul (pc := 62) dX4_coast_62 ?_
    refine V_bipush (pc := 63) 10 dX4_coast_63 (by decide) ?_
    refine V_aload_n (pc := 65) dX4_coast_65 rfl ?_
    refine G_X4_shore (pc := 66) (by first | rfl | assumption) fl_X4_16 dX4_coast_66 ?_
    rw [w17]
    refine G_X0_grounds (pc := 69) (by first | rfl | assumption) fl_X4_88 dX4_coast_69 ?_
    rw [wo, r8]
    refine V_imul (pc := 72) dX4_coast_72 ?_
    refine V_iadd (pc := 73) dX4_coast_73 ?_
    refine V_aload_n (pc := 74) dX4_coast_74 rfl ?_
    refine G_X4_shore (pc := 75) (by first | rfl | assumption) fl_X4_16 dX4_coast_75 ?_
    rw [w17]
    refine G_X0_children (pc := 78) (by first | rfl | assumption) fl_X4_91 dX4_coast_78 ?_
    rw [wo, r9]
    refine V_iadd (pc := 81) dX4_coast_81 ?_
    exact hret _ _ _ _ dX4_coast_82 (Or.inl ⟨h_6, rfl, u, hA, r, o, rfl⟩)
  · skip
    refine V_bipush (pc := 9) 4294967293 dX4_coast_9 (by decide) ?_
    exact hret _ _ _ _ dX4_coast_11 (Or.inr ⟨h_6, rfl, hA⟩)
