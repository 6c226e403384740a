/-! told doings, of the class -/
def juG (K : St) (P : Nat → Nat) (n r : Nat) : Nat := if (1 ≤ n ∧ n ≤ 4) ∧ r < 10000 ^ n then juF K n r n 0 P else 4294967294
def cdP (σ : St) (T : Nat → Nat) (how a r : Nat) : Option Value → St → Prop := fun v u => ∃ T', u = stX σ 48 T' ∧ OKP T' ∧ Z32 T' ∧ v = some (.int (nI (if ttB (KX σ (σ 17 2)) T how a r then 1 else 0))) ∧ (ttB (KX σ (σ 17 2)) T how a r → T' = ttT (KX σ (σ 17 2)) T how a r)
theorem Z_ttT {K : St} (o : OKK K) {T : Nat → Nat} {how a r : Nat} (hz : Z32 T) (h : ttB K T how a r) : Z32 (ttT K T how a r) := by
  have o2 := o.2.2.1
  unfold ttT
  split
  · exact Z_itr o hz 63 1
  · split
    · exact Z_fup hz (by omega)
    · split
      · exact Z_fup hz (by omega)
      · split
        · exact Z_unl hz (by omega) (by omega)
        · exact hz
theorem cd_t {σ : St} {T T' : Nat → Nat} {how a r : Nat} (o : OKK (KX σ (σ 17 2))) (hp : OKP T) (hz : Z32 T) (hb : ttB (KX σ (σ 17 2)) T how a r) (he : T' = ttT (KX σ (σ 17 2)) T how a r) : cdP σ T how a r (some (.int (nI 1))) (stX σ 48 T') := by
  subst he
  exact ⟨_, rfl, OKP_ttT o hp hb, Z_ttT o hz hb, by rw [if_pos hb], fun _ => rfl⟩
theorem cd_f {σ : St} {T : Nat → Nat} {how a r : Nat} (hp : OKP T) (hz : Z32 T) (hb : ¬ ttB (KX σ (σ 17 2)) T how a r) : cdP σ T how a r (some (.int (nI 0))) (stX σ 48 T) := ⟨_, rfl, hp, hz, by rw [if_neg hb], fun q => absurd q hb⟩
set_option maxHeartbeats 4000000 in
set_option maxRecDepth 100000 in
theorem c_X4_canPass {B : Bk} {σ : St} {T : Nat → Nat} (g : GX σ) (hT : OKP T) (hz : Z32 T) (hd2 : T 31 + 1 < 2 ^ 31) : MC yX4_canPass cX4_canPass 1 (some .boolean) 4 B [.ref (B.1 17)] (stX σ 48 T) (dI 1 (stX σ 48 (pd (KX σ (σ 17 2)) 63 T))) := by
  obtain ⟨hx, hp, hd⟩ := id g
  have hb := hx.1
  obtain ⟨b1, b2, b3, b4, b5, b6, b7, b8⟩ := kd3' hb
  obtain ⟨o0, o1, o2, o3, o4, o5⟩ := id hx.2.1.1
  have n7 : σ (σ 17 2) 7 ≤ 4 := o0
  have n8 : σ (σ 17 2) 8 ≤ 6 := o1
  have n9 : σ (σ 17 2) 9 ≤ 5 := o2
  have hc5 : ∀ i, i < 5 → σ (45 + 1) i < 12 := fun i h => by have := hp.1 i h; rw [pX_c h] at this; exact this
  have hm5 : σ 45 2 < 32 := hp.2.1
  have hd3 : σ 45 3 ≤ 2 ^ 20 := hd
  have hgc : ∀ i, i < σ (σ 17 2) 8 → σ (σ 17 2 + 2) i < 12 := fun i h => (o4 i h).1
  have e02 : KX σ (σ 17 2) 0 2 = σ (σ 17 2) 9 := rfl
  have e01 : KX σ (σ 17 2) 0 1 = σ (σ 17 2) 8 := rfl
  have o : OKK (KX σ (σ 17 2)) := hx.2.1.1
  have s17 : ∀ {T : Nat → Nat}, stX σ 48 T 17 = σ 17 := fun {T} => stX_o (by decide) (by decide) (by decide)
  refine MC_bool RX4 [some (.ref (B.1 17))] 0 (by decide +kernel) rfl rfl (Nat.le_of_ble_eq_true rfl) (fun E Q hret => ?_)
  refine V_aload_n (pc := 0) dX4_canPass_0 rfl ?_
  refine G_X4_trial (pc := 1) (by first | rfl | assumption) fl_X4_30 dX4_canPass_1 ?_
  refine V_aload_n (pc := 4) dX4_canPass_4 rfl ?_
  refine G_X4_shore (pc := 5) (by first | rfl | assumption) fl_X4_16 dX4_canPass_5 ?_
  refine V_iconst (pc := 8) 1 dX4_canPass_8 (by decide) ?_
  refine V_bipush (pc := 9) 63 dX4_canPass_9 (by decide) ?_
  rw [s17]
  refine V_callV_V (pc := 11) ff_X3_pass ml_X4_144 (by first | rfl | assumption) rfl rfl (c_X3_pass2 (k := 48) (z := 1) (th := 63) rfl hx hz hT (by decide) (by decide) hd2) dX4_canPass_11 rfl rfl (by decide) (by decide) (Nat.le_of_ble_eq_true rfl) ?_
  refine V_iconst (pc := 14) 1 dX4_canPass_14 (by decide) ?_
  exact hret _ _ _ _ dX4_canPass_15 (by first | decide | omega | (split <;> omega)) (dI_mk rfl rfl)
set_option maxHeartbeats 4000000 in
set_option maxRecDepth 100000 in
theorem c_X4_canSet {B : Bk} {σ : St} {c x : Nat} {T : Nat → Nat} (hc : c < 5) (hxx : x < 100) (hT : OKP T) : MC yX4_canSet cX4_canSet 3 (some .boolean) 1 B [.ref (B.1 17), .int (nI c), .int (nI x)] (stX σ 48 T) (dI (if x < 12 ∧ T c ≠ x then 1 else 0) (if x < 12 ∧ T c ≠ x then stX σ 48 (fup T c x) else stX σ 48 T)) := by
  have hTc := hT.1 c hc
  refine MC_bool RX4 [some (.ref (B.1 17)), some (.int (nI c)), some (.int (nI x))] 0 (by decide +kernel) rfl rfl (Nat.le_of_ble_eq_true rfl) (fun E Q hret => ?_)
  refine V_iload_n (pc := 0) dX4_canSet_0 rfl ?_
  refine V_callS_I (pc := 1) ff_X4_isCell ml_X4_151 (c_X4_isCell (by first | omega | assumption | exact and1_lt _ | exact nb_p)) dX4_canSet_1 rfl rfl (by decide) (by decide) (Nat.le_of_ble_eq_true rfl) ?_
  refine V_ifb_eq (pc := 4) 22 dX4_canSet_4 (by decide) (fun h_4 => ?_) (fun h_4 => ?_)
  · skip
    refine V_iconst (pc := 22) 0 dX4_canSet_22 (by decide) ?_
    exact hret _ _ _ _ dX4_canSet_23 (by first | decide | omega | (split <;> omega)) (by first | exact dI_mk (by rw [if_neg (by omega)]) (by rw [if_neg (by omega)]) | exact dI_mk (by rw [if_pos (by omega)]) (by rw [if_pos (by omega)]))
  · skip
    refine V_aload_n (pc := 7) dX4_canSet_7 rfl ?_
    refine G_X4_trial (pc := 8) (by first | rfl | assumption) fl_X4_30 dX4_canSet_8 ?_
    refine G_X3_cells (pc := 11) (by first | rfl | assumption) fl_X4_118 dX4_canSet_11 ?_
    refine V_iload_n (pc := 14) dX4_canSet_14 rfl ?_
    refine V_callS_I (pc := 15) ff_X4_at ml_X4_101 (c_X4_atI (n := 5) rfl hc) dX4_canSet_15 rfl rfl (by decide) (by decide) (Nat.le_of_ble_eq_true rfl) ?_
    rw [stX_c _ _ _ hc]
    refine V_iload_n (pc := 18) dX4_canSet_18 rfl ?_
    refine V_icmp_ne (pc := 19) 24 dX4_canSet_19 (by decide) (by first | omega | assumption | exact and1_lt _ | exact nb_p) (by first | omega | assumption | exact and1_lt _ | exact nb_p) (fun h_19 => ?_) (fun h_19 => ?_)
    · skip
      refine V_aload_n (pc := 24) dX4_canSet_24 rfl ?_
      refine G_X4_trial (pc := 25) (by first | rfl | assumption) fl_X4_30 dX4_canSet_25 ?_
      refine G_X3_cells (pc := 28) (by first | rfl | assumption) fl_X4_118 dX4_canSet_28 ?_
      refine V_iload_n (pc := 31) dX4_canSet_31 rfl ?_
      refine V_iload_n (pc := 32) dX4_canSet_32 rfl ?_
      refine V_callS_V (pc := 33) ff_X4_lay ml_X4_67 (c_X4_layI (n := 5) rfl hc) dX4_canSet_33 rfl rfl (by decide) (by decide) (Nat.le_of_ble_eq_true rfl) ?_
      rw [stX_pc _ _ _ _ hc]
      refine V_iconst (pc := 36) 1 dX4_canSet_36 (by decide) ?_
      exact hret _ _ _ _ dX4_canSet_37 (by first | decide | omega | (split <;> omega)) (by first | exact dI_mk (by rw [if_neg (by omega)]) (by rw [if_neg (by omega)]) | exact dI_mk (by rw [if_pos (by omega)]) (by rw [if_pos (by omega)]))
    · skip
      refine V_iconst (pc := 22) 0 dX4_canSet_22 (by decide) ?_
      exact hret _ _ _ _ dX4_canSet_23 (by first | decide | omega | (split <;> omega)) (by first | exact dI_mk (by rw [if_neg (by omega)]) (by rw [if_neg (by omega)]) | exact dI_mk (by rw [if_pos (by omega)]) (by rw [if_pos (by omega)]))
set_option maxHeartbeats 4000000 in
set_option maxRecDepth 100000 in
theorem c_X4_canMoor {B : Bk} {σ : St} {c : Nat} {T : Nat → Nat} (hc : c < 5) : MC yX4_canMoor cX4_canMoor 2 (some .boolean) 1 B [.ref (B.1 17), .int (nI c)] (stX σ 48 T) (dI 1 (stX σ 48 (fup T 5 (T 5 ^^^ 1 * 2 ^ c)))) := by
  refine MC_bool RX4 [some (.ref (B.1 17)), some (.int (nI c))] 0 (by decide +kernel) rfl rfl (Nat.le_of_ble_eq_true rfl) (fun E Q hret => ?_)
  refine V_aload_n (pc := 0) dX4_canMoor_0 rfl ?_
  refine G_X4_trial (pc := 1) (by first | rfl | assumption) fl_X4_30 dX4_canMoor_1 ?_
  refine V_iload_n (pc := 4) dX4_canMoor_4 rfl ?_
  refine V_callV_V (pc := 5) ff_X3_turnMooring ml_X4_154 (by first | rfl | assumption) rfl rfl (c_X3_turnMooring (k := 48) rfl (by omega)) dX4_canMoor_5 rfl rfl (by decide) (by decide) (Nat.le_of_ble_eq_true rfl) ?_
  rw [stX_m, stX_pm]
  refine V_iconst (pc := 8) 1 dX4_canMoor_8 (by decide) ?_
  exact hret _ _ _ _ dX4_canMoor_9 (by first | decide | omega | (split <;> omega)) (dI_mk rfl rfl)
set_option maxHeartbeats 4000000 in
set_option maxRecDepth 100000 in
theorem c_X4_canPutBack {B : Bk} {σ : St} {c : Nat} {T : Nat → Nat} (hc : c < 5) (hT : OKP T) (hz : Z32 T) : MC yX4_canPutBack cX4_canPutBack 2 (some .boolean) 3 B [.ref (B.1 17), .int (nI c)] (stX σ 48 T) (dI (if 0 < wtF T c 5 then 1 else 0) (if 0 < wtF T c 5 then stX σ 48 (unl T c 5) else stX σ 48 T)) := by
  have hle := wtF_le hT hc 5 (by omega)
  refine MC_bool RX4 [some (.ref (B.1 17)), some (.int (nI c))] 0 (by decide +kernel) rfl rfl (Nat.le_of_ble_eq_true rfl) (fun E Q hret => ?_)
  refine V_aload_n (pc := 0) dX4_canPutBack_0 rfl ?_
  refine G_X4_trial (pc := 1) (by first | rfl | assumption) fl_X4_30 dX4_canPutBack_1 ?_
  refine V_iload_n (pc := 4) dX4_canPutBack_4 rfl ?_
  refine V_callV_I (pc := 5) ff_X3_weight ml_X4_127 (by first | rfl | assumption) rfl rfl (c_X3_weight (k := 48) rfl hc) dX4_canPutBack_5 rfl rfl (by decide) (by decide) (Nat.le_of_ble_eq_true rfl) ?_
  rw [pX_stX _ _ hz]
  refine V_if_ne (pc := 8) 13 dX4_canPutBack_8 (by decide) (by first | omega | assumption | exact and1_lt _ | exact nb_p) (fun h_8 => ?_) (fun h_8 => ?_)
  · skip
    refine V_aload_n (pc := 13) dX4_canPutBack_13 rfl ?_
    refine G_X4_trial (pc := 14) (by first | rfl | assumption) fl_X4_30 dX4_canPutBack_14 ?_
    refine V_iload_n (pc := 17) dX4_canPutBack_17 rfl ?_
    refine V_callV_V (pc := 18) ff_X3_unlearn ml_X4_158 (by first | rfl | assumption) rfl rfl (c_X3_unlearn (k := 48) rfl hc) dX4_canPutBack_18 rfl rfl (by decide) (by decide) (Nat.le_of_ble_eq_true rfl) ?_
    rw [pX_stX _ _ hz, stX_stX]
    refine V_iconst (pc := 21) 1 dX4_canPutBack_21 (by decide) ?_
    exact hret _ _ _ _ dX4_canPutBack_22 (by first | decide | omega | (split <;> omega)) (by first | exact dI_mk (by rw [if_neg (by omega)]) (by rw [if_neg (by omega)]) | exact dI_mk (by rw [if_pos (by omega)]) (by rw [if_pos (by omega)]))
  · skip
    refine V_iconst (pc := 11) 0 dX4_canPutBack_11 (by decide) ?_
    exact hret _ _ _ _ dX4_canPutBack_12 (by first | decide | omega | (split <;> omega)) (by first | exact dI_mk (by rw [if_neg (by omega)]) (by rw [if_neg (by omega)]) | exact dI_mk (by rw [if_pos (by omega)]) (by rw [if_pos (by omega)]))
set_option maxHeartbeats 4000000 in
set_option maxRecDepth 100000 in
theorem c_X4_canBeDone {B : Bk} {σ : St} {q : Nat} {T : Nat → Nat} (g : GX σ) (hq : q < 10000) (hT : OKP T) (hz : Z32 T) (hd2 : T 31 + 1 < 2 ^ 31) : MC yX4_canBeDone cX4_canBeDone 6 (some .boolean) 5 B [.ref (B.1 17), .int (nI q)] (stX σ 48 T) (cdP σ T (q / 1000) (q / 100 % 10) (q % 100)) := by
  obtain ⟨hx, hp, hd⟩ := id g
  have hb := hx.1
  obtain ⟨b1, b2, b3, b4, b5, b6, b7, b8⟩ := kd3' hb
  obtain ⟨o0, o1, o2, o3, o4, o5⟩ := id hx.2.1.1
  have n7 : σ (σ 17 2) 7 ≤ 4 := o0
  have n8 : σ (σ 17 2) 8 ≤ 6 := o1
  have n9 : σ (σ 17 2) 9 ≤ 5 := o2
  have hc5 : ∀ i, i < 5 → σ (45 + 1) i < 12 := fun i h => by have := hp.1 i h; rw [pX_c h] at this; exact this
  have hm5 : σ 45 2 < 32 := hp.2.1
  have hd3 : σ 45 3 ≤ 2 ^ 20 := hd
  have hgc : ∀ i, i < σ (σ 17 2) 8 → σ (σ 17 2 + 2) i < 12 := fun i h => (o4 i h).1
  have e02 : KX σ (σ 17 2) 0 2 = σ (σ 17 2) 9 := rfl
  have e01 : KX σ (σ 17 2) 0 1 = σ (σ 17 2) 8 := rfl
  have o : OKK (KX σ (σ 17 2)) := hx.2.1.1
  have s17 : ∀ {T : Nat → Nat}, stX σ 48 T 17 = σ 17 := fun {T} => stX_o (by decide) (by decide) (by decide)
  refine MC_bool RX4 [some (.ref (B.1 17)), some (.int (nI q)), none, none, none, none] 4 (by decide +kernel) rfl rfl (Nat.le_of_ble_eq_true rfl) (fun E Q hret => ?_)
  refine V_iload_n (pc := 0) dX4_canBeDone_0 rfl ?_
  refine V_sipush (pc := 1) 1000 dX4_canBeDone_1 (by decide) ?_
  refine V_idiv (pc := 4) dX4_canBeDone_4 (by first | omega | assumption | exact and1_lt _ | exact nb_p) (by first | omega | assumption | exact and1_lt _ | exact nb_p) (by first | omega | assumption | exact and1_lt _ | exact nb_p) ?_
  refine V_istore_n (pc := 5) dX4_canBeDone_5 (by decide) rfl ?_
  refine V_iload_n (pc := 6) dX4_canBeDone_6 rfl ?_
  refine V_bipush (pc := 7) 100 dX4_canBeDone_7 (by decide) ?_
  refine V_idiv (pc := 9) dX4_canBeDone_9 (by first | omega | assumption | exact and1_lt _ | exact nb_p) (by first | omega | assumption | exact and1_lt _ | exact nb_p) (by first | omega | assumption | exact and1_lt _ | exact nb_p) ?_
  refine V_bipush (pc := 10) 10 dX4_canBeDone_10 (by decide) ?_
  refine V_irem (pc := 12) dX4_canBeDone_12 (by first | omega | assumption | exact and1_lt _ | exact nb_p) (by first | omega | assumption | exact and1_lt _ | exact nb_p) (by first | omega | assumption | exact and1_lt _ | exact nb_p) ?_
  refine V_istore_n (pc := 13) dX4_canBeDone_13 (by decide) rfl ?_
  refine V_iload_n (pc := 14) dX4_canBeDone_14 rfl ?_
  refine V_bipush (pc := 15) 10 dX4_canBeDone_15 (by decide) ?_
  refine V_idiv (pc := 17) dX4_canBeDone_17 (by first | omega | assumption | exact and1_lt _ | exact nb_p) (by first | omega | assumption | exact and1_lt _ | exact nb_p) (by first | omega | assumption | exact and1_lt _ | exact nb_p) ?_
  refine V_bipush (pc := 18) 10 dX4_canBeDone_18 (by decide) ?_
  refine V_irem (pc := 20) dX4_canBeDone_20 (by first | omega | assumption | exact and1_lt _ | exact nb_p) (by first | omega | assumption | exact and1_lt _ | exact nb_p) (by first | omega | assumption | exact and1_lt _ | exact nb_p) ?_
  refine V_istore (pc := 21) dX4_canBeDone_21 (by decide) rfl ?_
  refine V_iload_n (pc := 23) dX4_canBeDone_23 rfl ?_
  refine V_bipush (pc := 24) 10 dX4_canBeDone_24 (by decide) ?_
  refine V_irem (pc := 26) dX4_canBeDone_26 (by first | omega | assumption | exact and1_lt _ | exact nb_p) (by first | omega | assumption | exact and1_lt _ | exact nb_p) (by first | omega | assumption | exact and1_lt _ | exact nb_p) ?_
  refine V_istore (pc := 27) dX4_canBeDone_27 (by decide) rfl ?_
  refine V_iload_n (pc := 29) dX4_canBeDone_29 rfl ?_
  by_cases hs_30_0 : q / 1000 = 0
  · skip
    refine V_tabK (pc := 30) (m := 0) 64 dX4_canBeDone_30 hs_30_0 (by decide) (by decide) rfl (by decide) ?_
    refine V_iload_n (pc := 64) dX4_canBeDone_64 rfl ?_
    refine V_if_ne (pc := 65) 79 dX4_canBeDone_65 (by decide) (by first | omega | assumption | exact and1_lt _ | exact nb_p) (fun h_65 => ?_) (fun h_65 => ?_)
    · skip
      refine V_iconst (pc := 79) 0 dX4_canBeDone_79 (by decide) ?_
      exact hret _ _ _ _ dX4_canBeDone_80 (by first | decide | omega | (split <;> omega)) (by first | exact (cd_f hT hz (fun q => by unfold ttB at q; omega)) | exact (cd_t o hT hz (by unfold ttB; omega) (by unfold ttT; rw [if_pos (by omega)])))
    · skip
      refine V_aload_n (pc := 68) dX4_canBeDone_68 rfl ?_
      refine V_callV_I (pc := 69) ff_X4_canPass ml_X4_268 (by first | rfl | assumption) rfl rfl (c_X4_canPass g hT hz hd2) dX4_canBeDone_69 rfl rfl (by decide) (by decide) (Nat.le_of_ble_eq_true rfl) ?_
      refine V_if_eq (pc := 72) 79 dX4_canBeDone_72 (by decide) (by first | omega | assumption | exact and1_lt _ | exact nb_p) (fun h_72 => absurd h_72 (by omega)) (fun h_72 => ?_)
      refine V_iconst (pc := 75) 1 dX4_canBeDone_75 (by decide) ?_
      refine V_goto (pc := 76) 80 dX4_canBeDone_76 (by decide) ?_
      exact hret _ _ _ _ dX4_canBeDone_80 (by first | decide | omega | (split <;> omega)) (by first | exact (cd_f hT hz (fun q => by unfold ttB at q; omega)) | exact (cd_t o hT hz (by unfold ttB; omega) (by unfold ttT; rw [if_pos (by omega)])))
  by_cases hs_30_1 : q / 1000 = 1
  · skip
    refine V_tabK (pc := 30) (m := 1) 81 dX4_canBeDone_30 hs_30_1 (by decide) (by decide) rfl (by decide) ?_
    refine V_aload_n (pc := 81) dX4_canBeDone_81 rfl ?_
    refine V_iload_n (pc := 82) dX4_canBeDone_82 rfl ?_
    refine V_callV_I (pc := 83) ff_X4_isChild ml_X4_115 (by first | rfl | assumption) rfl rfl (c_X4_isChild (by rw [s17]; exact hb) (by omega) (by rw [s17, stX_o (by omega) (by omega) (by omega)]; omega)) dX4_canBeDone_83 rfl rfl (by decide) (by decide) (Nat.le_of_ble_eq_true rfl) ?_
    rw [s17, stX_o (by omega) (by omega) (by omega)]
    refine V_ifb_eq (pc := 86) 109 dX4_canBeDone_86 (by decide) (fun h_86 => ?_) (fun h_86 => ?_)
    · skip
      refine V_iconst (pc := 109) 0 dX4_canBeDone_109 (by decide) ?_
      exact hret _ _ _ _ dX4_canBeDone_110 (by first | decide | omega | (split <;> omega)) (by first | exact (cd_f hT hz (fun q => by unfold ttB at q; omega)) | exact (cd_t o hT hz (by unfold ttB; omega) (by unfold ttT; rw [if_neg (by omega), if_pos (by omega), show q % 100 = 10 * (q / 10 % 10) + q % 10 by omega])))
    · skip
      refine V_aload_n (pc := 89) dX4_canBeDone_89 rfl ?_
      refine V_iload_n (pc := 90) dX4_canBeDone_90 rfl ?_
      refine V_bipush (pc := 91) 10 dX4_canBeDone_91 (by decide) ?_
      refine V_iload (pc := 93) dX4_canBeDone_93 rfl ?_
      refine V_imul (pc := 95) dX4_canBeDone_95 ?_
      refine V_iload (pc := 96) dX4_canBeDone_96 rfl ?_
      refine V_iadd (pc := 98) dX4_canBeDone_98 ?_
      refine V_callV_I (pc := 99) ff_X4_canSet ml_X4_271 (by first | rfl | assumption) rfl rfl (c_X4_canSet (by omega) (by omega) hT) dX4_canBeDone_99 rfl rfl (by decide) (by decide) (Nat.le_of_ble_eq_true rfl) ?_
      refine V_ifb_eq (pc := 102) 109 dX4_canBeDone_102 (by decide) (fun h_102 => ?_) (fun h_102 => ?_)
      · skip
        rw [if_neg h_102]
        refine V_iconst (pc := 109) 0 dX4_canBeDone_109 (by decide) ?_
        exact hret _ _ _ _ dX4_canBeDone_110 (by first | decide | omega | (split <;> omega)) (by first | exact (cd_f hT hz (fun q => by unfold ttB at q; omega)) | exact (cd_t o hT hz (by unfold ttB; omega) (by unfold ttT; rw [if_neg (by omega), if_pos (by omega), show q % 100 = 10 * (q / 10 % 10) + q % 10 by omega])))
      · skip
        rw [if_pos h_102]
        refine V_iconst (pc := 105) 1 dX4_canBeDone_105 (by decide) ?_
        refine V_goto (pc := 106) 110 dX4_canBeDone_106 (by decide) ?_
        exact hret _ _ _ _ dX4_canBeDone_110 (by first | decide | omega | (split <;> omega)) (by first | exact (cd_f hT hz (fun q => by unfold ttB at q; omega)) | exact (cd_t o hT hz (by unfold ttB; omega) (by unfold ttT; rw [if_neg (by omega), if_pos (by omega), show q % 100 = 10 * (q / 10 % 10) + q % 10 by omega])))
  by_cases hs_30_2 : q / 1000 = 2
  · skip
    refine V_tabK (pc := 30) (m := 2) 111 dX4_canBeDone_30 hs_30_2 (by decide) (by decide) rfl (by decide) ?_
    refine V_iload_n (pc := 111) dX4_canBeDone_111 rfl ?_
    refine V_if_ne (pc := 112) 142 dX4_canBeDone_112 (by decide) (by first | omega | assumption | exact and1_lt _ | exact nb_p) (fun h_112 => ?_) (fun h_112 => ?_)
    · skip
      refine V_iconst (pc := 142) 0 dX4_canBeDone_142 (by decide) ?_
      exact hret _ _ _ _ dX4_canBeDone_143 (by first | decide | omega | (split <;> omega)) (by first | exact (cd_f hT hz (fun q => by unfold ttB at q; omega)) | exact (cd_t o hT hz (by unfold ttB; omega) (by unfold ttT; rw [if_neg (by omega), if_neg (by omega), if_pos (by omega), show q % 100 = q % 10 by omega])))
    · skip
      refine V_iload (pc := 115) dX4_canBeDone_115 rfl ?_
      refine V_if_ne (pc := 117) 142 dX4_canBeDone_117 (by decide) (by first | omega | assumption | exact and1_lt _ | exact nb_p) (fun h_117 => ?_) (fun h_117 => ?_)
      · skip
        refine V_iconst (pc := 142) 0 dX4_canBeDone_142 (by decide) ?_
        exact hret _ _ _ _ dX4_canBeDone_143 (by first | decide | omega | (split <;> omega)) (by first | exact (cd_f hT hz (fun q => by unfold ttB at q; omega)) | exact (cd_t o hT hz (by unfold ttB; omega) (by unfold ttT; rw [if_neg (by omega), if_neg (by omega), if_pos (by omega), show q % 100 = q % 10 by omega])))
      · skip
        refine V_aload_n (pc := 120) dX4_canBeDone_120 rfl ?_
        refine V_iload (pc := 121) dX4_canBeDone_121 rfl ?_
        refine V_callV_I (pc := 123) ff_X4_isChild ml_X4_115 (by first | rfl | assumption) rfl rfl (c_X4_isChild (by rw [s17]; exact hb) (by omega) (by rw [s17, stX_o (by omega) (by omega) (by omega)]; omega)) dX4_canBeDone_123 rfl rfl (by decide) (by decide) (Nat.le_of_ble_eq_true rfl) ?_
        rw [s17, stX_o (by omega) (by omega) (by omega)]
        refine V_ifb_eq (pc := 126) 142 dX4_canBeDone_126 (by decide) (fun h_126 => ?_) (fun h_126 => ?_)
        · skip
          refine V_iconst (pc := 142) 0 dX4_canBeDone_142 (by decide) ?_
          exact hret _ _ _ _ dX4_canBeDone_143 (by first | decide | omega | (split <;> omega)) (by first | exact (cd_f hT hz (fun q => by unfold ttB at q; omega)) | exact (cd_t o hT hz (by unfold ttB; omega) (by unfold ttT; rw [if_neg (by omega), if_neg (by omega), if_pos (by omega), show q % 100 = q % 10 by omega])))
        · skip
          refine V_aload_n (pc := 129) dX4_canBeDone_129 rfl ?_
          refine V_iload (pc := 130) dX4_canBeDone_130 rfl ?_
          refine V_callV_I (pc := 132) ff_X4_canMoor ml_X4_274 (by first | rfl | assumption) rfl rfl (c_X4_canMoor (by omega)) dX4_canBeDone_132 rfl rfl (by decide) (by decide) (Nat.le_of_ble_eq_true rfl) ?_
          refine V_if_eq (pc := 135) 142 dX4_canBeDone_135 (by decide) (by first | omega | assumption | exact and1_lt _ | exact nb_p) (fun h_135 => absurd h_135 (by omega)) (fun h_135 => ?_)
          refine V_iconst (pc := 138) 1 dX4_canBeDone_138 (by decide) ?_
          refine V_goto (pc := 139) 143 dX4_canBeDone_139 (by decide) ?_
          exact hret _ _ _ _ dX4_canBeDone_143 (by first | decide | omega | (split <;> omega)) (by first | exact (cd_f hT hz (fun q => by unfold ttB at q; omega)) | exact (cd_t o hT hz (by unfold ttB; omega) (by unfold ttT; rw [if_neg (by omega), if_neg (by omega), if_pos (by omega), show q % 100 = q % 10 by omega])))
  by_cases hs_30_3 : q / 1000 = 3
  · skip
    refine V_tabK (pc := 30) (m := 3) 144 dX4_canBeDone_30 hs_30_3 (by decide) (by decide) rfl (by decide) ?_
    refine V_iload_n (pc := 144) dX4_canBeDone_144 rfl ?_
    refine V_if_ne (pc := 145) 175 dX4_canBeDone_145 (by decide) (by first | omega | assumption | exact and1_lt _ | exact nb_p) (fun h_145 => ?_) (fun h_145 => ?_)
    · skip
      refine V_iconst (pc := 175) 0 dX4_canBeDone_175 (by decide) ?_
      exact hret _ _ _ _ dX4_canBeDone_176 (by first | decide | omega | (split <;> omega)) (by first | exact (cd_f hT hz (fun q => by unfold ttB at q; omega)) | exact (cd_t o hT hz (by unfold ttB; omega) (by unfold ttT; rw [if_neg (by omega), if_neg (by omega), if_neg (by omega), if_pos (by omega), hr2])))
    · skip
      refine V_iload (pc := 148) dX4_canBeDone_148 rfl ?_
      refine V_if_ne (pc := 150) 175 dX4_canBeDone_150 (by decide) (by first | omega | assumption | exact and1_lt _ | exact nb_p) (fun h_150 => ?_) (fun h_150 => ?_)
      · skip
        refine V_iconst (pc := 175) 0 dX4_canBeDone_175 (by decide) ?_
        exact hret _ _ _ _ dX4_canBeDone_176 (by first | decide | omega | (split <;> omega)) (by first | exact (cd_f hT hz (fun q => by unfold ttB at q; omega)) | exact (cd_t o hT hz (by unfold ttB; omega) (by unfold ttT; rw [if_neg (by omega), if_neg (by omega), if_neg (by omega), if_pos (by omega), hr2])))
      · skip
        refine V_aload_n (pc := 153) dX4_canBeDone_153 rfl ?_
        refine V_iload (pc := 154) dX4_canBeDone_154 rfl ?_
        refine V_callV_I (pc := 156) ff_X4_isChild ml_X4_115 (by first | rfl | assumption) rfl rfl (c_X4_isChild (by rw [s17]; exact hb) (by omega) (by rw [s17, stX_o (by omega) (by omega) (by omega)]; omega)) dX4_canBeDone_156 rfl rfl (by decide) (by decide) (Nat.le_of_ble_eq_true rfl) ?_
        rw [s17, stX_o (by omega) (by omega) (by omega)]
        refine V_ifb_eq (pc := 159) 175 dX4_canBeDone_159 (by decide) (fun h_159 => ?_) (fun h_159 => ?_)
        · skip
          refine V_iconst (pc := 175) 0 dX4_canBeDone_175 (by decide) ?_
          exact hret _ _ _ _ dX4_canBeDone_176 (by first | decide | omega | (split <;> omega)) (by first | exact (cd_f hT hz (fun q => by unfold ttB at q; omega)) | exact (cd_t o hT hz (by unfold ttB; omega) (by unfold ttT; rw [if_neg (by omega), if_neg (by omega), if_neg (by omega), if_pos (by omega), hr2])))
        · skip
          refine V_aload_n (pc := 162) dX4_canBeDone_162 rfl ?_
          refine V_iload (pc := 163) dX4_canBeDone_163 rfl ?_
          refine V_callV_I (pc := 165) ff_X4_canPutBack ml_X4_277 (by first | rfl | assumption) rfl rfl (c_X4_canPutBack (by omega) hT hz) dX4_canBeDone_165 rfl rfl (by decide) (by decide) (Nat.le_of_ble_eq_true rfl) ?_
          refine V_ifb_eq (pc := 168) 175 dX4_canBeDone_168 (by decide) (fun h_168 => ?_) (fun h_168 => ?_)
          · skip
            rw [if_neg h_168]
            have hr2 : q % 100 = q % 10 := by omega
            have hwp := h_168
            rw [← hr2] at hwp
            refine V_iconst (pc := 175) 0 dX4_canBeDone_175 (by decide) ?_
            exact hret _ _ _ _ dX4_canBeDone_176 (by first | decide | omega | (split <;> omega)) (by first | exact (cd_f hT hz (fun q => by unfold ttB at q; omega)) | exact (cd_t o hT hz (by unfold ttB; omega) (by unfold ttT; rw [if_neg (by omega), if_neg (by omega), if_neg (by omega), if_pos (by omega), hr2])))
          · skip
            rw [if_pos h_168]
            have hr2 : q % 100 = q % 10 := by omega
            have hwp := h_168
            rw [← hr2] at hwp
            refine V_iconst (pc := 171) 1 dX4_canBeDone_171 (by decide) ?_
            refine V_goto (pc := 172) 176 dX4_canBeDone_172 (by decide) ?_
            exact hret _ _ _ _ dX4_canBeDone_176 (by first | decide | omega | (split <;> omega)) (by first | exact (cd_f hT hz (fun q => by unfold ttB at q; omega)) | exact (cd_t o hT hz (by unfold ttB; omega) (by unfold ttT; rw [if_neg (by omega), if_neg (by omega), if_neg (by omega), if_pos (by omega), hr2])))
  by_cases hs_30_4 : q / 1000 = 4
  · skip
    refine V_tabK (pc := 30) (m := 4) 177 dX4_canBeDone_30 hs_30_4 (by decide) (by decide) rfl (by decide) ?_
    refine V_aload_n (pc := 177) dX4_canBeDone_177 rfl ?_
    refine V_iload_n (pc := 178) dX4_canBeDone_178 rfl ?_
    refine V_callV_I (pc := 179) ff_X4_isChild ml_X4_115 (by first | rfl | assumption) rfl rfl (c_X4_isChild (by rw [s17]; exact hb) (by omega) (by rw [s17, stX_o (by omega) (by omega) (by omega)]; omega)) dX4_canBeDone_179 rfl rfl (by decide) (by decide) (Nat.le_of_ble_eq_true rfl) ?_
    rw [s17, stX_o (by omega) (by omega) (by omega)]
    refine V_ifb_eq (pc := 182) 212 dX4_canBeDone_182 (by decide) (fun h_182 => ?_) (fun h_182 => ?_)
    · skip
      refine V_iconst (pc := 212) 0 dX4_canBeDone_212 (by decide) ?_
      exact hret _ _ _ _ dX4_canBeDone_213 (by first | decide | omega | (split <;> omega)) (by first | exact (cd_f hT hz (fun q => by unfold ttB at q; omega)) | exact (cd_f hT hz (fun z => by unfold ttB at z; rw [hr3, hr4, hr5] at z; omega)) | exact (cd_t o hT hz (by unfold ttB; rw [hr3, hr4, hr5]; omega) (by unfold ttT; rw [if_neg (by omega), if_neg (by omega), if_neg (by omega), if_neg (by omega)])))
    · skip
      refine V_iload (pc := 185) dX4_canBeDone_185 rfl ?_
      refine V_callS_I (pc := 187) ff_X4_isSubject ml_X4_134 (c_X4_isSubject (by first | omega | assumption | exact and1_lt _ | exact nb_p)) dX4_canBeDone_187 rfl rfl (by decide) (by decide) (Nat.le_of_ble_eq_true rfl) ?_
      refine V_ifb_eq (pc := 190) 212 dX4_canBeDone_190 (by decide) (fun h_190 => ?_) (fun h_190 => ?_)
      · skip
        refine V_iconst (pc := 212) 0 dX4_canBeDone_212 (by decide) ?_
        exact hret _ _ _ _ dX4_canBeDone_213 (by first | decide | omega | (split <;> omega)) (by first | exact (cd_f hT hz (fun q => by unfold ttB at q; omega)) | exact (cd_f hT hz (fun z => by unfold ttB at z; rw [hr3, hr4, hr5] at z; omega)) | exact (cd_t o hT hz (by unfold ttB; rw [hr3, hr4, hr5]; omega) (by unfold ttT; rw [if_neg (by omega), if_neg (by omega), if_neg (by omega), if_neg (by omega)])))
      · skip
        refine V_aload_n (pc := 193) dX4_canBeDone_193 rfl ?_
        refine G_X4_trial (pc := 194) (by first | rfl | assumption) fl_X4_30 dX4_canBeDone_194 ?_
        refine V_iload_n (pc := 197) dX4_canBeDone_197 rfl ?_
        refine V_iload (pc := 198) dX4_canBeDone_198 rfl ?_
        refine V_callV_I (pc := 200) ff_X3_known ml_X4_137 (by first | rfl | assumption) rfl rfl (c_X3_known (k := 48) rfl (by omega) (by omega)) dX4_canBeDone_200 rfl rfl (by decide) (by decide) (Nat.le_of_ble_eq_true rfl) ?_
        rw [stX_n _ _ _ (by omega)]
        have hkn := hT.2.2 (q / 100 % 10 * 5 + q / 10 % 10) (by omega)
        have hr3 : q % 100 / 10 = q / 10 % 10 := by omega
        have hr4 : q % 100 % 10 = q % 10 := by omega
        have hr5 : 6 + 5 * (q / 100 % 10) + q / 10 % 10 = 6 + (q / 100 % 10 * 5 + q / 10 % 10) := by omega
        refine V_iload (pc := 203) dX4_canBeDone_203 rfl ?_
        refine V_icmp_lt (pc := 205) 212 dX4_canBeDone_205 (by decide) (by first | omega | assumption | exact and1_lt _ | exact nb_p) (by first | omega | assumption | exact and1_lt _ | exact nb_p) (fun h_205 => ?_) (fun h_205 => ?_)
        · skip
          refine V_iconst (pc := 212) 0 dX4_canBeDone_212 (by decide) ?_
          exact hret _ _ _ _ dX4_canBeDone_213 (by first | decide | omega | (split <;> omega)) (by first | exact (cd_f hT hz (fun q => by unfold ttB at q; omega)) | exact (cd_f hT hz (fun z => by unfold ttB at z; rw [hr3, hr4, hr5] at z; omega)) | exact (cd_t o hT hz (by unfold ttB; rw [hr3, hr4, hr5]; omega) (by unfold ttT; rw [if_neg (by omega), if_neg (by omega), if_neg (by omega), if_neg (by omega)])))
        · skip
          refine V_iconst (pc := 208) 1 dX4_canBeDone_208 (by decide) ?_
          refine V_goto (pc := 209) 213 dX4_canBeDone_209 (by decide) ?_
          exact hret _ _ _ _ dX4_canBeDone_213 (by first | decide | omega | (split <;> omega)) (by first | exact (cd_f hT hz (fun q => by unfold ttB at q; omega)) | exact (cd_f hT hz (fun z => by unfold ttB at z; rw [hr3, hr4, hr5] at z; omega)) | exact (cd_t o hT hz (by unfold ttB; rw [hr3, hr4, hr5]; omega) (by unfold ttT; rw [if_neg (by omega), if_neg (by omega), if_neg (by omega), if_neg (by omega)])))
  refine V_tabO (pc := 30) 214 dX4_canBeDone_30 (by first | omega | assumption | exact and1_lt _ | exact nb_p) (by omega) (by decide) (by decide) ?_
  refine V_iconst (pc := 214) 0 dX4_canBeDone_214 (by decide) ?_
  exact hret _ _ _ _ dX4_canBeDone_215 (by first | decide | omega | (split <;> omega)) (cd_f hT hz (fun q => by unfold ttB at q; omega))
set_option maxHeartbeats 4000000 in
set_option maxRecDepth 100000 in
theorem c_X4_judge {B : Bk} {σ : St} {n r : Nat} (hn : n < 2 ^ 32) (hr : r < 2 ^ 64) (g : GX σ) (h48 : OKP (pX σ 48)) : MC yX4_judge cX4_judge 8 (some .int) 6 B [.ref (B.1 17), .int (nI n), .long (lN r)] σ (rI (juG (KX σ (σ 17 2)) (pX σ 45) n r) (TQ σ)) := by
  obtain ⟨hx, hp, hd⟩ := id g
  have hb := hx.1
  obtain ⟨b1, b2, b3, b4, b5, b6, b7, b8⟩ := kd3' hb
  obtain ⟨o0, o1, o2, o3, o4, o5⟩ := id hx.2.1.1
  have n7 : σ (σ 17 2) 7 ≤ 4 := o0
  have n8 : σ (σ 17 2) 8 ≤ 6 := o1
  have n9 : σ (σ 17 2) 9 ≤ 5 := o2
  have hc5 : ∀ i, i < 5 → σ (45 + 1) i < 12 := fun i h => by have := hp.1 i h; rw [pX_c h] at this; exact this
  have hm5 : σ 45 2 < 32 := hp.2.1
  have hd3 : σ 45 3 ≤ 2 ^ 20 := hd
  have hgc : ∀ i, i < σ (σ 17 2) 8 → σ (σ 17 2 + 2) i < 12 := fun i h => (o4 i h).1
  have e02 : KX σ (σ 17 2) 0 2 = σ (σ 17 2) 9 := rfl
  have e01 : KX σ (σ 17 2) 0 1 = σ (σ 17 2) 8 := rfl
  have o : OKK (KX σ (σ 17 2)) := hx.2.1.1
  have s17 : ∀ {T : Nat → Nat}, stX σ 48 T 17 = σ 17 := fun {T} => stX_o (by decide) (by decide) (by decide)
  refine MC_int RX4 [some (.ref (B.1 17)), some (.int (nI n)), some (.long (lN r)), none, none, none, none, none] 4 (by decide +kernel) rfl rfl (Nat.le_of_ble_eq_true rfl) (fun E Q hret => ?_)
  refine V_iload_n (pc := 0) dX4_judge_0 rfl ?_
  refine V_iconst (pc := 1) 1 dX4_judge_1 (by decide) ?_
  refine V_icmpZ_lt (pc := 2) 10 dX4_judge_2 (by decide) hn (by decide) (fun h_2 => ?_) (fun h_2 => ?_)
  · skip
    refine V_bipush (pc := 10) 4294967294 dX4_judge_10 (by decide) ?_
    exact hret _ _ _ _ dX4_judge_12 (rI_mk (by unfold juG; rw [if_neg (by intro q; omega)]) (TQ.rf h48))
  · skip
    refine V_iload_n (pc := 5) dX4_judge_5 rfl ?_
    refine V_iconst (pc := 6) 4 dX4_judge_6 (by decide) ?_
    refine V_icmp_le (pc := 7) 13 dX4_judge_7 (by decide) (by first | omega | assumption | exact and1_lt _ | exact nb_p) (by first | omega | assumption | exact and1_lt _ | exact nb_p) (fun h_7 => ?_) (fun h_7 => ?_)
    · skip
      refine V_sipush (pc := 13) 10000 dX4_judge_13 (by decide) ?_
      refine V_iload_n (pc := 16) dX4_judge_16 rfl ?_
      refine V_callS_J (pc := 17) ff_X4_power ml_X4_181 (c_X4_power (v := 10000) (by decide) (by omega)) dX4_judge_17 rfl rfl (by decide) (by decide) (Nat.le_of_ble_eq_true rfl) ?_
      refine V_lstore (pc := 20) dX4_judge_20 (by decide) rfl ?_
      refine V_lload_n (pc := 22) dX4_judge_22 rfl ?_
      refine V_lconst (pc := 23) (v := lN 0) dX4_judge_23 rfl ?_
      refine V_lcmp (pc := 24) dX4_judge_24 ?_
      refine V_ifR_lt (pc := 25) 35 dX4_judge_25 (by decide) (fun h_25 => ?_) (fun h_25 => ?_)
      · skip
        have hneg : ¬ r < 2 ^ 63 := fun q => cmp_lt h_25 ((lN_0le hr).mpr q)
        have hp4 := pow4 (show n ≤ 4 by omega)
        refine V_bipush (pc := 35) 4294967294 dX4_judge_35 (by decide) ?_
        exact hret _ _ _ _ dX4_judge_37 (rI_mk (by unfold juG; rw [if_neg (by intro q; omega)]) (TQ.rf h48))
      · skip
        have hpos : r < 2 ^ 63 := (lN_0le hr).mp (cmp_nlt h_25)
        have hp4 := pow4 (show n ≤ 4 by omega)
        refine V_lload_n (pc := 28) dX4_judge_28 rfl ?_
        refine V_lload (pc := 29) dX4_judge_29 rfl ?_
        refine V_lcmp (pc := 31) dX4_judge_31 ?_
        refine V_ifR_lt (pc := 32) 38 dX4_judge_32 (by decide) (fun h_32 => ?_) (fun h_32 => ?_)
        · skip
          have hlt : r < 10000 ^ n := by
            have := cmp_lt h_32
            rw [pk_lLE (by omega) (by omega)] at this
            omega
          refine V_aload_n (pc := 38) dX4_judge_38 rfl ?_
          refine G_X4_trial (pc := 39) (by first | rfl | assumption) fl_X4_30 dX4_judge_39 ?_
          refine V_aload_n (pc := 42) dX4_judge_42 rfl ?_
          refine G_X4_now (pc := 43) (by first | rfl | assumption) fl_X4_26 dX4_judge_43 ?_
          refine V_callV_V (pc := 46) ff_X3_take ml_X4_170 (by first | rfl | assumption) rfl rfl (c_X3_take (k := 48) (j := 45) rfl rfl (by decide)) dX4_judge_46 rfl rfl (by decide) (by decide) (Nat.le_of_ble_eq_true rfl) ?_
          refine V_iconst (pc := 49) 0 dX4_judge_49 (by decide) ?_
          refine V_istore (pc := 50) dX4_judge_50 (by decide) rfl ?_
          have L_52 : ∀ (m : Nat) (i : Nat) (y z : Option Value) (T : Nat → Nat), n - i = m → i ≤ n → OKP T → Z32 T → T 31 ≤ pX σ 45 31 + i → juG (KX σ (σ 17 2)) (pX σ 45) n r = juF (KX σ (σ 17 2)) n r (n - i) i T → okS [y] 0 = true → V E B RX4 cX4_judge 8 6 Q 52 [some (.ref (B.1 17)), some (.int (nI n)), some (.long (lN r)), none, y, none, some (.int (nI i)), z] [] (stX σ 48 T) := by
            intro m
            induction m using Nat.strongRecOn with
            | _ m ih =>
              intro i y z T hm hi hpT hzT hd2 hj hy
              refine V_iload (pc := 52) dX4_judge_52 rfl ?_
              refine V_iload_n (pc := 54) dX4_judge_54 rfl ?_
              refine V_icmp_ge (pc := 55) 112 dX4_judge_55 (by decide) (by first | omega | assumption | exact and1_lt _ | exact nb_p) (by first | omega | assumption | exact and1_lt _ | exact nb_p) (fun h_55 => ?_) (fun h_55 => ?_)
              · skip
                refine V_bipush (pc := 112) 4294967287 dX4_judge_112 (by decide) ?_
                exact hret _ _ _ _ dX4_judge_114 (rI_mk (by rw [hj, show n - i = 0 by omega]; rfl) ⟨_, hpT, hzT, rfl⟩)
              · skip
                refine V_sipush (pc := 58) 10000 dX4_judge_58 (by decide) ?_
                refine V_iload_n (pc := 61) dX4_judge_61 rfl ?_
                refine V_iconst (pc := 62) 1 dX4_judge_62 (by decide) ?_
                refine V_isub (pc := 63) dX4_judge_63 (by omega) ?_
                refine V_iload (pc := 64) dX4_judge_64 rfl ?_
                refine V_isub (pc := 66) dX4_judge_66 (by omega) ?_
                refine V_callS_J (pc := 67) ff_X4_power ml_X4_181 (c_X4_power (v := 10000) (n := n - 1 - i) (by decide) (by omega)) dX4_judge_67 rfl rfl (by decide) (by decide) (Nat.le_of_ble_eq_true rfl) ?_
                refine V_lstore (pc := 70) dX4_judge_70 (by decide) rfl ?_
                refine V_lload (pc := 72) dX4_judge_72 rfl ?_
                refine V_lconst (pc := 74) (v := lN 0) dX4_judge_74 rfl ?_
                refine V_lcmp (pc := 75) dX4_judge_75 ?_
                have hp5 := pow4 (show n - 1 - i ≤ 4 by omega)
                have hp6 := pow4p (n - 1 - i)
                refine V_ifR_le (pc := 76) 91 dX4_judge_76 (by decide) (fun h_76 => absurd h_76 (fun q => by have := (lg_cmp_le _ _).mp h_76; rw [pk_lLE (by omega) (by omega)] at this; omega)) (fun h_76 => ?_)
                refine V_lload_n (pc := 79) dX4_judge_79 rfl ?_
                refine V_lload (pc := 80) dX4_judge_80 rfl ?_
                refine V_ldiv (pc := 82) dX4_judge_82 (lN_ne0 (by omega) (by omega)) (pk_lDiv (by omega) (by omega) (by omega)) ?_
                refine V_ldc2N (pc := 83) (m := 10000) kl_X4_185 rfl dX4_judge_83 ?_
                have hdl := Nat.div_le_self r (10000 ^ (n - 1 - i))
                refine V_lrem (pc := 86) dX4_judge_86 (lN_ne0 (by decide) (by decide)) (pk_lRem (by omega) (by decide) (by decide)) ?_
                refine V_l2i (pc := 87) dX4_judge_87 (lN_i _) ?_
                have hf : fgr n r i < 10000 := Nat.mod_lt _ (by decide)
                rw [show r / 10000 ^ (n - 1 - i) % 10000 = fgr n r i from rfl]
                refine V_goto (pc := 88) 92 dX4_judge_88 (by decide) ?_
                refine V_istore (pc := 92) dX4_judge_92 (by decide) rfl ?_
                refine V_aload_n (pc := 94) dX4_judge_94 rfl ?_
                refine V_iload (pc := 95) dX4_judge_95 rfl ?_
                refine V_callV (pc := 97) ff_X4_canBeDone ml_X4_187 (by first | rfl | assumption) rfl rfl (c_X4_canBeDone g hf hpT hzT (by omega)) dX4_judge_97 rfl rfl (by decide) (by decide) (Nat.le_of_ble_eq_true rfl) (fun v u hu => ?_)
                obtain ⟨T2, rfl, hO2, hZ2, rfl, hT2⟩ := hu
                simp only [Option.toList, List.cons_append, List.nil_append]
                refine V_ifb_ne (pc := 100) 106 dX4_judge_100 (by decide) (fun h_100 => ?_) (fun h_100 => ?_)
                · skip
                  refine V_iinc (pc := 106) 1 dX4_judge_106 (by decide) rfl (by decide) rfl ?_
                  refine V_goto (pc := 109) 52 dX4_judge_109 (by decide) ?_
                  exact ih _ (by omega) (i + 1) _ _ _ rfl (by omega) hO2 hZ2 (by rw [hT2 h_100]; have := ttT_31 o h_100; omega) (by rw [hj, juF_step (by omega), if_pos h_100, hT2 h_100]) rfl
                · skip
                  refine V_iload (pc := 103) dX4_judge_103 rfl ?_
                  exact hret _ _ _ _ dX4_judge_105 (rI_mk (by rw [hj, juF_step (by omega), if_neg h_100]) ⟨_, hO2, hZ2, rfl⟩)
          exact L_52 _ 0 _ none _ rfl (by omega) hp (Z_pX σ 45) (by omega) (by unfold juG; rw [if_pos ⟨by omega, by omega⟩, Nat.sub_zero]) rfl
        · skip
          have hge : ¬ r < 10000 ^ n := by
            have := cmp_nlt h_32
            rw [pk_lLE (by omega) (by omega)] at this
            omega
          refine V_bipush (pc := 35) 4294967294 dX4_judge_35 (by decide) ?_
          exact hret _ _ _ _ dX4_judge_37 (rI_mk (by unfold juG; rw [if_neg (by intro q; omega)]) (TQ.rf h48))
    · skip
      refine V_bipush (pc := 10) 4294967294 dX4_judge_10 (by decide) ?_
      exact hret _ _ _ _ dX4_judge_12 (rI_mk (by unfold juG; rw [if_neg (by intro q; omega)]) (TQ.rf h48))
